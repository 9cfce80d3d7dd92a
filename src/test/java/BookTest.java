/** Promises 10 to 19: the book, the way in which things of a kind are named, and the odd ones. */
public final class BookTest {
  private static final int LOW = Integer.MIN_VALUE;
  private static final int HIGH = Integer.MAX_VALUE;
  private static final Due due = new Due("BookTest");

  public static void main(String[] args) {
    word();
    wordRoom();
    shorts();
    openedInRings();
    alike();
    told();
    part();
    roles();
    way();
    wayOfAll();
    odd();
    mixed();
    strange();
    due.end();
  }

  private static void word() {
    NameHouse x = new NameHouse();
    due.accepted("10: roles 0", x, Due.word(x, 0, "a"), 0);
    due.accepted("10: roles 15", x, Due.word(x, 15, "zzzzzzzzzzzz"), 1);
    due.accepted("10: like the first, longer", x, Due.word(x, 1, "aa"), 2);
    due.refused("10: there already", x, Due.word(x, 1, "a"), 4);
    due.refused("10: thirteen letters", x, Due.word(x, 1, "abcdefghijklm"), 2);
    due.refused("10: a longer one still", x, Due.word(x, 1, "abcdefghijklmnopqrstuvwxyz"), 2);
    String[] bad = {"aB", "B", "a1", "1", "_", "a_b", " ", "a`", "a{", "\u00e9", "\u0000"};
    for (String text : bad) {
      due.refused("10: '" + text + "'", x, Due.word(x, 1, text), 2);
      due.is("10: tape empty behind '" + text + "'", x.count(6), 0);
    }
    Due.feed(x, "b");
    int[] wrongRoles = {-1, 16, HIGH, LOW};
    for (int roles : wrongRoles) {
      due.refused("10: roles " + roles, x, x.word(roles, 1), 2);
    }
    int[] wrongBytes = {-1, 21, HIGH, LOW};
    for (int n : wrongBytes) {
      due.refused("10: n " + n, x, x.word(0, n), 2);
    }
    due.is("10: tape left by these", x.count(6), 20);
    due.refused("10: no bytes are no word", x, x.word(0, 0), 2);
    due.is("10: tape empty behind them", x.count(6), 0);
    due.is("10: they are counted", x.count(3), 3);
  }

  private static String letters(int i) {
    return "w" + (char) ('a' + i / 26) + (char) ('a' + i % 26);
  }

  private static void wordRoom() {
    NameHouse x = new NameHouse();
    for (int i = 0; i < 60; i++) {
      due.is("10: word " + i, Due.word(x, i % 16, letters(i)), i);
    }
    due.refused("10: no room", x, Due.word(x, 0, "more"), 3);
    due.is("10: tape empty behind no room", x.count(6), 0);
    due.refused("10: 4 comes ahead of 3", x, Due.word(x, 0, letters(59)), 4);
    due.refused("10: 2 comes ahead of 3", x, Due.word(x, 0, "More"), 2);
    due.is("10: sixty of them", x.count(3), 60);
    due.is("13: the last one's roles", x.told(59, 0), 59 % 16);
    due.is("13: no more", x.told(60, 0), -1);
    Due.thing(x, 0, 0, letters(59) + "_" + letters(0));
    due.is("14: the last one is found", x.part(0, 0), 59);
    due.is("14: the first one is found", x.part(0, 1), 0);
    for (int i = 0; i < 59; i++) {
      due.is("12: alike " + i, x.alike(i, i + 1), true);
    }
    due.is("13: all in one group", x.told(59, 4), 60);
    due.is("13: its head", x.told(30, 3), 0);
    due.is("13: its last one's use", x.told(59, 2), 1);
    due.is("18: two of it are used", x.mixed(), 1);
    due.is("20: the head for both", x.offer(0), 7);
    due.is("20: its bytes", Due.out(x), letters(0) + "_" + letters(0));
  }

  private static void shorts() {
    NameHouse x = new NameHouse();
    Due.word(x, 0, "num");
    Due.word(x, 0, "number");
    Due.word(x, 0, "n");
    due.is("11: for another", x.shorts(0, 1), true);
    due.is("11: no trouble", x.trouble(), 0);
    due.is("13: for which", x.told(0, 1), 1);
    due.is("13: for none", x.told(1, 1), -1);
    int[][] wrong = {{0, 0}, {1, 1}, {3, 1}, {-1, 1}, {-1, -1}, {3, -1}, {0, 3}, {0, -2}, {0, LOW},
        {HIGH, 0}, {0, HIGH}, {LOW, 0}};
    for (int[] pair : wrong) {
      x.shorts(0, 1);
      due.is("11: " + pair[0] + " for " + pair[1], x.shorts(pair[0], pair[1]), false);
      due.is("11: its trouble", x.trouble(), 1);
      due.is("11: it stays as it was", x.told(0, 1), 1);
    }
    due.is("11: told anew", x.shorts(2, 0), true);
    Due.thing(x, 0, 0, "n_num_number");
    due.is("13: opened twice over", x.told(1, 2), 3);
    due.is("13: a short one is not used", x.told(0, 2), 0);
    due.is("11: in place of it", x.shorts(2, 1), true);
    due.is("13: for which now", x.told(2, 1), 1);
    due.is("11: for none", x.shorts(0, -1), true);
    due.is("13: none now", x.told(0, 1), -1);
    due.is("13: used by itself", x.told(0, 2), 1);
    due.is("13: the other two", x.told(1, 2), 2);
  }

  /** Words short for one another in a ring are opened sixty times. */
  private static void openedInRings() {
    for (int ring = 2; ring <= 9; ring++) {
      NameHouse x = new NameHouse();
      for (int i = 0; i < ring; i++) {
        Due.word(x, 0, letters(i));
      }
      for (int i = 0; i < ring; i++) {
        x.shorts(i, (i + 1) % ring);
      }
      Due.thing(x, 0, 0, letters(0));
      for (int i = 0; i < ring; i++) {
        due.is("III: ring of " + ring + ", word " + i, x.told(i, 2), i == 60 % ring ? 1 : 0);
      }
    }
    NameHouse x = new NameHouse();
    for (int i = 0; i < 60; i++) {
      Due.word(x, 0, letters(i));
    }
    for (int i = 0; i < 59; i++) {
      x.shorts(i, i + 1);
    }
    Due.thing(x, 0, 0, letters(0));
    due.is("III: a row of sixty is opened to its end", x.told(59, 2), 1);
  }

  private static void alike() {
    NameHouse x = new NameHouse();
    String[] words = {"a", "b", "c", "d", "e"};
    for (String word : words) {
      Due.word(x, 0, word);
    }
    x.scope(9);
    due.is("12: two", x.alike(0, 1), true);
    due.is("12: no trouble", x.trouble(), 0);
    due.is("12: two more", x.alike(3, 2), true);
    due.is("13: group of 0", x.told(0, 4), 2);
    due.is("13: group of 4", x.told(4, 4), 1);
    due.is("12: of alike ones", x.alike(2, 1), true);
    for (int w = 0; w < 4; w++) {
      due.is("13: group of " + w, x.told(w, 4), 4);
      due.is("13: head of " + w, x.told(w, 3), 0);
    }
    due.is("12: already", x.alike(0, 3), true);
    due.is("12: itself", x.alike(4, 4), true);
    due.is("13: group of 4 still", x.told(4, 4), 1);
    due.is("13: group of 0 still", x.told(0, 4), 4);
    int[][] wrong = {{0, 5}, {5, 0}, {-1, 0}, {0, -1}, {-1, -1}, {5, 5}, {HIGH, 0}, {0, LOW}};
    for (int[] pair : wrong) {
      x.alike(0, 0);
      due.is("12: " + pair[0] + " and " + pair[1], x.alike(pair[0], pair[1]), false);
      due.is("12: its trouble", x.trouble(), 1);
    }
  }

  private static void told() {
    NameHouse x = new NameHouse();
    Due.word(x, 5, "cnt");
    Due.word(x, 2, "count");
    Due.word(x, 10, "size");
    Due.word(x, 0, "len");
    x.shorts(0, 1);
    x.alike(2, 1);
    x.alike(2, 3);
    Due.thing(x, 0, 0, "sizeSizeLen");
    Due.thing(x, 0, 1, "CNT_COUNT");
    long[][] all = {{5, 1, 0, 0, 1}, {2, -1, 2, 1, 3}, {10, -1, 2, 1, 3}, {0, -1, 1, 1, 3}};
    for (int w = 0; w < 4; w++) {
      for (int what = 0; what < 5; what++) {
        due.is("13: told(" + w + ", " + what + ")", x.told(w, what), all[w][what]);
      }
    }
    Due.thing(x, 0, 0, "size9");
    due.is("13: the most used is head", x.told(1, 3), 2);
    x.scope(9);
    int[] wrong = {-1, 5, HIGH, LOW};
    for (int i : wrong) {
      due.is("13: word " + i, x.told(i, 0), -1);
      due.is("13: what " + i, x.told(0, i), -1);
    }
    due.is("13: leaves trouble", x.trouble(), 1);
    Due.rename(x, 0, "x");
    due.is("13: a rename told is no name yet", x.told(2, 2), 3);
    x.turn();
    due.is("13: made it is", x.told(2, 2), 1);
    x.back();
    due.is("13: taken back", x.told(2, 2), 3);
  }

  private static void part() {
    NameHouse x = new NameHouse();
    Due.thing(x, 0, 0, "getTheSIZE2OfIt");
    due.is("14: no word yet", x.part(0, 0), -2);
    Due.word(x, 1, "get");
    Due.word(x, 2, "size");
    Due.word(x, 8, "it");
    x.shorts(0, 1);
    long[] parts = {0, -2, 1, -2, -2, 2, -1};
    for (int i = 0; i < parts.length; i++) {
      due.is("14: part " + i, x.part(0, i), parts[i]);
    }
    int[] wrong = {-1, 24, HIGH, LOW};
    for (int i : wrong) {
      due.is("14: part " + i, x.part(0, i), -1);
      due.is("14: thing " + i, x.part(i, 0), -1);
    }
    due.is("14: thing 1", x.part(1, 0), -1);
    Due.thing(x, 0, 0, "abcdefghijklmget");
    due.is("14: a long part is no word", x.part(1, 0), -2);
    int twelve = Due.word(x, 1, "abcdefghijkl");
    Due.thing(x, 0, 0, "pabcdefghijkl_abcdefghijkl");
    due.is("14: too long for a name", x.about(2, 0), -1);
    Due.thing(x, 0, 0, "pabcdefghijkl");
    due.is("14: nor is it by its last twelve letters", x.part(2, 0), -2);
    Due.thing(x, 0, 0, "Abcdefghijkl");
    due.is("14: twelve letters may be one", x.part(3, 0), twelve);
  }

  private static void roles() {
    NameHouse x = new NameHouse();
    Due.thing(x, 0, 0, "a_b_c_d_e");
    int[] lowest = {0, 1, 2, 1, 4, 1, 2, 1, 8, 1, 2, 1, 4, 1, 2, 1};
    for (int roles = 0; roles < 16; roles++) {
      String word = "r" + (char) ('a' + roles);
      Due.word(x, roles, word);
      int t = Due.thing(x, 0, 0, word);
      due.is("III: role of " + roles, x.about(t, 5), lowest[roles]);
    }
    due.is("III: no words", x.about(0, 5), 0);
    Due.word(x, 8, "e");
    due.is("III: the fifth part is left out", x.about(0, 5), 0);
    Due.word(x, 8, "d");
    due.is("III: the fourth", x.about(0, 5), 8);
    Due.word(x, 4, "c");
    Due.word(x, 2, "b");
    Due.word(x, 1, "a");
    due.is("III: the first highest", x.about(0, 5), 0x1248);
    x.shorts(x.part(0, 0), x.part(0, 3));
    due.is("III: the pattern is of parts as they are", x.about(0, 5), 0x1248);
  }

  private static void way() {
    NameHouse x = new NameHouse();
    for (int kind = 0; kind < 3; kind++) {
      due.is("15: no things", x.way(kind), -2);
      due.is("16: no things", x.odd(kind), 0);
    }
    int[] wrong = {-1, 3, HIGH, LOW};
    for (int kind : wrong) {
      due.is("15: kind " + kind, x.way(kind), -1);
      due.is("16: kind " + kind, x.odd(kind), -1);
    }
    Due.word(x, 1, "get");
    Due.word(x, 2, "size");
    Due.thing(x, 0, 1, "sizeGet");
    due.is("15: one thing's", x.way(1), 0x21);
    due.is("15: not another kind's", x.way(0), -2);
    Due.thing(x, 0, 1, "getSize");
    due.is("15: the least of as frequent ones", x.way(1), 0x12);
    Due.thing(x, 0, 1, "size_get");
    due.is("15: the most frequent", x.way(1), 0x21);
    Due.thing(x, 0, 1, "get_size");
    due.is("15: the least again", x.way(1), 0x12);
    Due.thing(x, 0, 0, "thing");
    due.is("15: of no roles", x.way(0), 0);
  }

  /** Eighty things, whose most frequent pattern comes late. */
  private static void wayOfAll() {
    NameHouse x = new NameHouse();
    Due.word(x, 1, "a");
    Due.word(x, 2, "b");
    for (int i = 0; i < 80; i++) {
      Due.thing(x, 0, 2, (i < 26 ? "x" : i < 53 ? "b" : "a") + i);
    }
    due.is("15: twenty-seven of each: the least", x.way(2), 0x10);
    due.is("16: the others", x.odd(2), 53);
    Due.rename(x, 79, "b79");
    x.turn();
    due.is("15: by a rename the other", x.way(2), 0x20);
    due.is("16: fewer", x.odd(2), 52);
    due.is("17: the last one isn't", x.isOdd(79), 0);
    due.is("17: the one ahead of it is", x.isOdd(78), 1);
  }

  private static void odd() {
    NameHouse x = new NameHouse();
    Due.word(x, 1, "get");
    Due.word(x, 2, "size");
    Due.thing(x, 0, 1, "getSize");
    Due.thing(x, 0, 1, "size");
    Due.thing(x, 0, 1, "getIt");
    Due.thing(x, 0, 1, "get_size");
    Due.thing(x, 0, 0, "size2");
    due.is("16: of acts", x.odd(1), 2);
    due.is("16: of values", x.odd(0), 0);
    int[] odds = {0, 1, 1, 0, 0};
    for (int t = 0; t < odds.length; t++) {
      due.is("17: thing " + t, x.isOdd(t), odds[t]);
    }
    int[] wrong = {-1, 5, 80, HIGH, LOW};
    for (int t : wrong) {
      due.is("17: thing " + t, x.isOdd(t), -1);
    }
    due.is("17: leaves trouble", x.trouble(), 0);
  }

  private static void mixed() {
    NameHouse x = new NameHouse();
    due.is("18: an empty book", x.mixed(), 0);
    String[] words = {"a", "b", "c", "d", "e", "f", "g"};
    for (String word : words) {
      Due.word(x, 0, word);
    }
    x.alike(0, 1);
    x.alike(2, 3);
    x.alike(3, 4);
    due.is("18: none used", x.mixed(), 0);
    Due.thing(x, 0, 0, "aAF");
    Due.thing(x, 0, 0, "a_a_f_g");
    due.is("18: one used twice", x.mixed(), 0);
    Due.thing(x, 0, 0, "b");
    due.is("18: two used", x.mixed(), 1);
    Due.thing(x, 0, 0, "c_d_e");
    due.is("18: another group", x.mixed(), 2);
    x.shorts(1, 0);
    due.is("18: opened they are one", x.mixed(), 1);
    x.shorts(1, -1);
    x.alike(4, 0);
    due.is("18: two groups made one", x.mixed(), 1);
    x.alike(5, 6);
    due.is("18: one more", x.mixed(), 2);
  }

  private static void strange() {
    NameHouse x = new NameHouse();
    due.is("19: no things", x.strange(), 0);
    Due.thing(x, 0, 0, "aB1c22");
    due.is("19: digits aren't", x.strange(), 3);
    Due.thing(x, 0, 0, "a_a");
    due.is("19: each part counts", x.strange(), 5);
    Due.word(x, 0, "a");
    due.is("19: a word isn't", x.strange(), 2);
    Due.word(x, 0, "zz");
    x.shorts(0, 1);
    due.is("19: nor a short one", x.strange(), 2);
    Due.thing(x, 0, 0, "abcdefghijklmnopqrstuvwx");
    due.is("19: a long part is", x.strange(), 3);
  }
}
