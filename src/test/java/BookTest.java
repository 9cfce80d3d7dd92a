/** Promises 10 to 19: the book, the way in which things of a kind are named, and the odd ones. */
public final class BookTest {
  private static final Due due =
      new Due("BookTest", "10", "11", "12", "13", "14", "15", "16", "17", "18", "19");

  public static void main(String[] args) {
    word();
    shorts();
    alike();
    told();
    part();
    way();
    odd();
    mixed();
    strange();
    due.end();
  }

  // ---- 10

  private static void word() {
    due.test("10", "A WORD with ROLES (0 .. 15): its number", BookTest::wordNumbers);
    due.test("10", "NONE: 2", BookTest::wordNone);
    due.test("10", "; 4", BookTest::wordThere);
    due.test("10", "; 3", BookTest::wordNoRoom);
  }

  private static void wordNumbers() {
    for (int i = 0; i < 16; i++) {
      int roles = i;
      due.accepted("roles " + i, Made.book("x"), h -> h.word(roles, "a"), 1);
      due.is("its roles", House.of(h -> h.word(roles, "a")).told(0, 0), roles);
    }
    due.accepted("the last", Made.words(59), h -> h.word(15, "a"), 59);
    House h = House.of(Made.book("b"));
    due.is("refused", h.word(0, "B"), -1);
    due.is("the next number", h.word(0, "a"), 1);
    due.is("short for none", h.told(1, 1), -1);
    due.is("alone in its group", h.told(1, 4), 1);
    due.is("counted", h.count(3), 2);
    House.Calls turned = Made.named("a").and(c -> c.rename(0, "b")).and(c -> c.turn());
    due.is("a word doesn't hinder back", House.of(turned.and(c -> c.word(0, "a"))).back(), 1);
  }

  private static void wordNone() {
    House.Calls fed = Made.book("x").and(Made.tape(20));
    for (int roles : Made.outside(16)) {
      due.refused("roles " + roles, fed, h -> h.word(roles, 3), 2);
    }
    int[] wrong = {-1, -2, Made.LEAST, 21, 200, 201, Made.GREATEST};
    for (int n : wrong) {
      due.refused("by " + n, fed, h -> h.word(0, n), 2);
    }
    due.refused("by 1 of none", Made.book("x"), h -> h.word(0, 1), 2);
    String[] none = {"", "A", "aB", "Ab", "a1", "1", "_", "a_", "_a", "a b", " ", "\u00e9",
        "abcdefghijklm", "a".repeat(20), "a".repeat(24), "a".repeat(200)};
    for (String text : none) {
      due.refused("'" + text + "'", Made.book("x"), h -> h.word(0, text), 2);
    }
    due.refused("roles ahead of there already", Made.book("x").and(h -> h.feed("x")),
        h -> h.word(16, 1), 2);
    due.refused("no word ahead of no room", Made.words(60), h -> h.word(0, "A"), 2);
    due.refused("roles ahead of no room", Made.words(60), h -> h.word(-1, 0), 2);
  }

  private static void wordThere() {
    House.Calls three = h -> {
      h.word(5, "ab");
      h.word(0, "abcdefghijkl");
      h.word(0, "b");
      h.shorts(0, 2);
      h.alike(0, 1);
    };
    due.refused("the same", three, h -> h.word(5, "ab"), 4);
    due.refused("with other roles", three, h -> h.word(0, "ab"), 4);
    due.refused("of twelve letters", three, h -> h.word(0, "abcdefghijkl"), 4);
    due.refused("the latest", three, h -> h.word(0, "b"), 4);
    String[] others = {"a", "abc", "ba", "bb", "aab", "abcdefghijk", "abcdefghijkm", "bbcdefghijkl"};
    for (String other : others) {
      due.accepted("but " + other, three, h -> h.word(0, other), 3);
    }
    due.refused("ahead of no room, the first", Made.words(60), h -> h.word(0, Made.word(0)), 4);
    due.refused("ahead of no room, the last", Made.words(60), h -> h.word(0, Made.word(59)), 4);
  }

  private static void wordNoRoom() {
    due.refused("the sixty-first", Made.words(60), h -> h.word(0, "a"), 3);
    House h = House.of(Made.words(60).and(Made.named("a")));
    h.word(0, "a");
    due.is("there is none", h.told(60, 0), -1);
    due.is("nor is a part it", h.part(0, 0), -2);
  }

  // ---- 11

  private static void shorts() {
    due.test("11", "A WORD is SHORT for another one", BookTest::shortsTold);
    due.test("11", "(-1: for none): true", BookTest::shortsForNone);
    due.test("11", "false: 1", BookTest::shortsNoneSuch);
    due.test("11", "(also for itself)", BookTest::shortsItself);
  }

  private static final House.Calls NUM = Made.book("n", "num", "number");

  private static void shortsTold() {
    due.accepted("for a later one", NUM, h -> h.shorts(0, 2), 1);
    due.accepted("for an earlier one", NUM, h -> h.shorts(2, 0), 1);
    due.accepted("again", NUM.and(h -> h.shorts(0, 2)), h -> h.shorts(0, 2), 1);
    due.accepted("round about", NUM.and(h -> h.shorts(0, 2)), h -> h.shorts(2, 0), 1);
    due.accepted("the last for the first", Made.words(60), h -> h.shorts(59, 0), 1);
    due.accepted("the first for the last", Made.words(60), h -> h.shorts(0, 59), 1);
    House h = House.of(NUM.and(c -> c.shorts(0, 2)));
    due.is("for which", h.told(0, 1), 2);
    due.is("the others", h.told(1, 1), -1);
    h.shorts(0, 1);
    due.is("in place of it", h.told(0, 1), 1);
    due.is("they aren't alike by it", h.told(0, 4), 1);
  }

  private static void shortsForNone() {
    due.accepted("from one", NUM.and(h -> h.shorts(0, 2)), h -> h.shorts(0, -1), 1);
    due.accepted("from none", NUM, h -> h.shorts(0, -1), 1);
    House h = House.of(NUM.and(c -> c.shorts(0, 2)).and(c -> c.shorts(1, 2)));
    h.shorts(0, -1);
    due.is("for none", h.told(0, 1), -1);
    due.is("another still", h.told(1, 1), 2);
    due.same("as it was", NUM.and(c -> c.shorts(0, 2)).and(c -> c.shorts(0, -1)), NUM);
  }

  private static void shortsNoneSuch() {
    House.Calls made = NUM.and(h -> h.shorts(0, 2));
    for (int w : Made.outside(3)) {
      due.refusedBy("word " + w, 0, made, h -> h.shorts(w, 0), 1);
      due.refusedBy("word " + w + " for none", 0, made, h -> h.shorts(w, -1), 1);
      if (w != -1) {
        due.refusedBy("for word " + w, 0, made, h -> h.shorts(0, w), 1);
      }
    }
    for (int w : Made.outside(60)) {
      due.refusedBy("word " + w + " of sixty", 0, Made.words(60), h -> h.shorts(w, 0), 1);
    }
  }

  private static void shortsItself() {
    House.Calls made = NUM.and(h -> h.shorts(0, 2));
    for (int i = 0; i < 3; i++) {
      int w = i;
      due.refusedBy("word " + w, 0, made, h -> h.shorts(w, w), 1);
    }
  }

  // ---- 12

  private static void alike() {
    due.test("12", "Two WORDS are ALIKE: true", BookTest::alikeTold);
    due.test("12", "false: 1", BookTest::alikeNoneSuch);
    due.test("12", "(Alike already: true.)", BookTest::alikeAlready);
  }

  private static void alikeTold() {
    due.accepted("two", NUM, h -> h.alike(0, 1), 1);
    due.accepted("the other way", NUM, h -> h.alike(2, 0), 1);
    due.accepted("the first and the last", Made.words(60), h -> h.alike(0, 59), 1);
    due.same("either way", NUM.and(h -> h.alike(0, 1)), NUM.and(h -> h.alike(1, 0)));
    due.same("of alike ones, in any order",
        NUM.and(h -> h.alike(0, 1)).and(h -> h.alike(1, 2)),
        NUM.and(h -> h.alike(2, 0)).and(h -> h.alike(1, 0)));
    House h = House.of(NUM.and(c -> c.alike(2, 0)));
    int[] groups = {2, 1, 2};
    for (int w = 0; w < 3; w++) {
      due.is("group of " + w, h.told(w, 4), groups[w]);
      due.is("short for none", h.told(w, 1), -1);
    }
  }

  private static void alikeNoneSuch() {
    House.Calls made = NUM.and(h -> h.alike(0, 1));
    for (int w : Made.outside(3)) {
      due.refusedBy("one " + w, 0, made, h -> h.alike(w, 0), 1);
      due.refusedBy("other " + w, 0, made, h -> h.alike(0, w), 1);
      due.refusedBy("both " + w, 0, made, h -> h.alike(w, w), 1);
    }
    for (int w : Made.outside(60)) {
      due.refusedBy("other " + w + " of sixty", 0, Made.words(60), h -> h.alike(0, w), 1);
    }
  }

  private static void alikeAlready() {
    House.Calls made = NUM.and(h -> h.alike(0, 1)).and(h -> h.alike(1, 2));
    for (int i = 0; i < 9; i++) {
      int one = i / 3;
      int other = i % 3;
      due.accepted(one + " and " + other, made, h -> h.alike(one, other), 1);
      due.same("as it was", made.and(h -> h.alike(one, other)), made);
    }
    due.accepted("itself, alone", NUM, h -> h.alike(1, 1), 1);
    due.same("alone still", NUM.and(h -> h.alike(1, 1)), NUM);
  }

  // ---- 13

  private static void told() {
    due.test("13", "Of a WORD what 0 ROLES", BookTest::toldRoles);
    due.test("13", "1 for which it is SHORT (NONE)", BookTest::toldShort);
    due.test("13", "2 USED", BookTest::toldUsed);
    due.test("13", "3 HEAD", BookTest::toldHead);
    due.test("13", "4 how many its group has", BookTest::toldGroup);
    due.test("13", "; NONE", BookTest::toldNone);
  }

  /** cnt short for count, and count, size, len alike; count and size used twice, len once. */
  private static final House.Calls COUNTS = h -> {
    h.word(5, "cnt");
    h.word(2, "count");
    h.word(15, "size");
    h.word(0, "len");
    h.shorts(0, 1);
    h.alike(2, 1);
    h.alike(2, 3);
    h.thing(0, 0, "sizeSizeLen");
    h.thing(0, 1, "CNT_COUNT");
  };

  private static void toldAll(int what, int... want) {
    for (int i = 0; i < want.length; i++) {
      int w = i;
      due.asked("of " + w, COUNTS, h -> h.told(w, what), want[w]);
    }
  }

  private static void toldRoles() {
    toldAll(0, 5, 2, 15, 0);
  }

  private static void toldShort() {
    toldAll(1, 1, -1, -1, -1);
    House h = House.of(Made.words(60).and(c -> c.shorts(59, 58)));
    due.is("of the last", h.told(59, 1), 58);
    due.is("of the one ahead", h.told(58, 1), -1);
  }

  private static void toldUsed() {
    toldAll(2, 0, 2, 2, 1);
    House h = House.of(Made.words(60).and(Made.named(Made.word(59))));
    due.is("of the last", h.told(59, 2), 1);
    due.is("of the first", h.told(0, 2), 0);
  }

  private static void toldHead() {
    toldAll(3, 0, 1, 1, 1);
    House h = House.of(COUNTS.and(c -> c.thing(0, 0, "size9")));
    for (int w = 1; w < 4; w++) {
      due.is("by use, of " + w, h.told(w, 3), 2);
    }
    due.is("of the last of sixty", House.of(Made.words(60)).told(59, 3), 59);
  }

  private static void toldGroup() {
    toldAll(4, 1, 3, 3, 3);
  }

  private static void toldNone() {
    for (int i : Made.outside(5)) {
      due.asked("what " + i, COUNTS, h -> h.told(0, i), -1);
    }
    for (int i : Made.outside(4)) {
      for (int j = 0; j < 5; j++) {
        int what = j;
        due.asked("word " + i, COUNTS, h -> h.told(i, what), -1);
      }
    }
    for (int i : Made.outside(60)) {
      due.is("word " + i + " of sixty", House.of(Made.words(60)).told(i, 4), -1);
    }
  }

  // ---- 14

  private static void part() {
    due.test("14", "The WORD that PART i of a THING's NAME is", BookTest::partWord);
    due.test("14", "-2 if it is none", BookTest::partNoWord);
    due.test("14", "NONE for no such one", BookTest::partNone);
  }

  private static final House.Calls PARTS = h -> {
    h.word(1, "get");
    h.word(2, "size");
    h.word(8, "it");
    h.word(0, "abcdefghijkl");
    h.shorts(0, 1);
    h.alike(1, 2);
    h.thing(0, 0, "getTheSIZE2OfIt");
    h.thing(0, 0, "Abcdefghijkl");
    h.thing(0, 0, "abcdefghijklm");
    h.thing(0, 0, "pabcdefghijkl");
    h.thing(0, 0, "gets_ge_Get");
  };

  private static void parts(int thing, int... want) {
    for (int i = 0; i < want.length; i++) {
      int at = i;
      due.asked("part " + at + " of " + thing, PARTS, h -> h.part(thing, at), want[at]);
    }
  }

  private static void partWord() {
    parts(0, 0, -2, 1, -2, -2, 2);
    parts(1, 3);
    House h = House.of(Made.words(60).and(Made.named(Made.word(59) + "_" + Made.word(0))));
    due.is("the last word", h.part(0, 0), 59);
    due.is("the first word", h.part(0, 1), 0);
    House last = House.of(Made.book("z").and(Made.named("a1b2c3d4e5f6g7h8i9j0k1_z")));
    due.is("the last of many parts", last.part(0, 22), 0);
  }

  private static void partNoWord() {
    parts(2, -2);
    parts(3, -2);
    parts(4, -2, -2, 0);
    House h = House.of(Made.named("a1b2c3d4e5f6g7h8i9j0k1l2"));
    for (int i = 0; i < 24; i++) {
      due.is("in an empty book, part " + i, h.part(0, i), -2);
    }
  }

  private static void partNone() {
    parts(0, 0, -2, 1, -2, -2, 2, -1);
    for (int i : Made.outside(6)) {
      due.asked("part " + i, PARTS, h -> h.part(0, i), -1);
    }
    for (int i : Made.outside(5)) {
      due.asked("thing " + i, PARTS, h -> h.part(i, 0), -1);
    }
    House.Calls many = Made.named("a1b2c3d4e5f6g7h8i9j0k1l2");
    for (int i : Made.outside(24)) {
      due.is("part " + i + " of 24", House.of(many).part(0, i), -1);
    }
    House.Calls fewer = many.and(h -> h.rename(0, "a")).and(h -> h.turn());
    due.asked("what a longer name left", fewer, h -> h.part(0, 1), -1);
  }

  // ---- 15, 16, 17

  private static void way() {
    due.test("15", "WAY of a KIND", BookTest::wayOfKind);
    due.test("15", "-2 if it has no THINGS", BookTest::wayOfNothing);
    due.test("15", "NONE", BookTest::wayNone);
  }

  /** Acts getSize (twice), size and getIt; one value size2; no sorts. */
  private static final House.Calls ACTS = h -> {
    h.word(1, "get");
    h.word(2, "size");
    h.thing(0, 1, "getSize");
    h.thing(0, 1, "size");
    h.thing(0, 1, "getIt");
    h.thing(0, 1, "get_size");
    h.thing(0, 0, "size2");
  };

  private static void wayOfKind() {
    due.asked("of values", ACTS, h -> h.way(0), 0x20);
    due.asked("of acts", ACTS, h -> h.way(1), 0x12);
    House.Calls least = ACTS.and(h -> h.thing(0, 1, "SIZE"));
    due.asked("the least of as frequent ones", least, h -> h.way(1), 0x2);
    due.asked("of no roles", Made.named("x"), h -> h.way(0), 0);
    House.Calls told = Made.named("x").and(h -> h.word(1, "y")).and(h -> h.rename(0, "y"));
    due.asked("a rename told is no name", told, h -> h.way(0), 0);
    due.asked("one made is", told.and(h -> h.turn()), h -> h.way(0), 1);
    House.Calls all = Made.book("x").and(h -> h.word(4, "n")).and(Made.things(80));
    for (int kind = 0; kind < 3; kind++) {
      due.is("of eighty", House.of(all).way(kind), 0x40);
    }
    House.Calls inScopes = ACTS.and(Made.deep(2)).and(h -> h.thing(1, 1, "size")).and(
        h -> h.thing(1, 1, "Size"));
    due.asked("of all scopes", inScopes, h -> h.way(1), 0x2);
  }

  private static void wayOfNothing() {
    due.asked("of sorts", ACTS, h -> h.way(2), -2);
    for (int i = 0; i < 3; i++) {
      int kind = i;
      due.asked("in a new house", Made.NEW, h -> h.way(kind), -2);
      due.asked("in a house of words", Made.words(3), h -> h.way(kind), -2);
    }
  }

  private static void wayNone() {
    for (int kind : Made.outside(3)) {
      due.asked("kind " + kind, ACTS, h -> h.way(kind), -1);
      due.asked("kind " + kind + " in a new house", Made.NEW, h -> h.way(kind), -1);
    }
  }

  private static void odd() {
    due.test("16", "How many THINGS of a KIND are ODD", BookTest::oddOfKind);
    due.test("16", "NONE", BookTest::oddNone);
    due.test("17", "Whether a THING is ODD: 1, 0", BookTest::isOdd);
    due.test("17", "NONE", BookTest::isOddNone);
  }

  private static void oddOfKind() {
    due.asked("of acts", ACTS, h -> h.odd(1), 2);
    due.asked("of values", ACTS, h -> h.odd(0), 0);
    due.asked("of sorts, which there are none of", ACTS, h -> h.odd(2), 0);
    for (int i = 0; i < 3; i++) {
      int kind = i;
      due.asked("in a new house", Made.NEW, h -> h.odd(kind), 0);
    }
    House.Calls halves = h -> {
      h.word(1, "a");
      h.word(2, "b");
      for (int t = 0; t < 80; t++) {
        h.thing(0, 2, (t < 40 ? "b" : "a") + t);
      }
    };
    due.is("forty of eighty", House.of(halves).odd(2), 40);
    due.is("the first is", House.of(halves).isOdd(0), 1);
    due.is("the last isn't", House.of(halves).isOdd(79), 0);
    House.Calls one = halves.and(h -> h.rename(79, "b79")).and(h -> h.turn());
    due.is("one fewer", House.of(one).odd(2), 39);
    due.is("the first isn't now", House.of(one).isOdd(0), 0);
    due.is("the last isn't", House.of(one).isOdd(79), 0);
    due.is("the one ahead is", House.of(one).isOdd(78), 1);
  }

  private static void oddNone() {
    for (int kind : Made.outside(3)) {
      due.asked("kind " + kind, ACTS, h -> h.odd(kind), -1);
      due.asked("kind " + kind + " in a new house", Made.NEW, h -> h.odd(kind), -1);
    }
  }

  private static void isOdd() {
    int[] want = {0, 1, 1, 0, 0};
    for (int i = 0; i < want.length; i++) {
      int thing = i;
      due.asked("thing " + i, ACTS, h -> h.isOdd(thing), want[i]);
    }
    due.asked("the only one of its kind", Made.named("x"), h -> h.isOdd(0), 0);
  }

  private static void isOddNone() {
    for (int thing : Made.outside(5)) {
      due.asked("thing " + thing, ACTS, h -> h.isOdd(thing), -1);
    }
    for (int thing : Made.outside(80)) {
      due.is("thing " + thing + " of eighty", House.of(Made.things(80)).isOdd(thing), -1);
    }
  }

  // ---- 18

  private static void mixed() {
    due.test("18", "How many groups of two WORDS or more", BookTest::mixedGroups);
    due.test("18", "have more than one with USED above 0", BookTest::mixedUsed);
  }

  private static final House.Calls SEVEN = Made.book("a", "b", "c", "d", "e", "f", "g").and(h -> {
    h.alike(0, 1);
    h.alike(2, 3);
    h.alike(3, 4);
  });

  private static void mixedGroups() {
    due.asked("an empty book", Made.named("a"), h -> h.mixed(), 0);
    due.asked("words alone", Made.book("a", "b").and(Made.named("a_b_a_b")), h -> h.mixed(), 0);
    due.asked("none used", SEVEN, h -> h.mixed(), 0);
    House.Calls all = SEVEN.and(Made.named("a_b_c_d_e_f_g"));
    due.asked("two groups", all, h -> h.mixed(), 2);
    due.asked("three", all.and(h -> h.alike(6, 5)), h -> h.mixed(), 3);
    due.asked("two made one", all.and(h -> h.alike(1, 4)), h -> h.mixed(), 1);
    House pairs = House.of(Made.words(60).and(h -> {
      for (int w = 0; w < 60; w += 2) {
        h.alike(59 - w, 58 - w);
        h.thing(0, 0, Made.word(w) + "_" + Made.word(w + 1));
      }
    }));
    due.is("thirty", pairs.mixed(), 30);
    House one = House.of(Made.words(60).and(h -> {
      for (int w = 1; w < 60; w++) {
        h.alike(w, 0);
      }
      h.thing(0, 0, Made.word(58) + "_" + Made.word(59));
    }));
    due.is("one of sixty words", one.mixed(), 1);
  }

  private static void mixedUsed() {
    due.asked("one used", SEVEN.and(Made.named("a")), h -> h.mixed(), 0);
    due.asked("one used twice", SEVEN.and(Made.named("a_a", "a")), h -> h.mixed(), 0);
    due.asked("two used in one name", SEVEN.and(Made.named("a_b")), h -> h.mixed(), 1);
    due.asked("two used in two", SEVEN.and(Made.named("e", "d")), h -> h.mixed(), 1);
    due.asked("three used", SEVEN.and(Made.named("e", "d", "c")), h -> h.mixed(), 1);
    House.Calls opened = SEVEN.and(Made.named("a_b")).and(h -> h.shorts(1, 0));
    due.asked("opened they are one", opened, h -> h.mixed(), 0);
    House.Calls openedTo = SEVEN.and(Made.named("a_f")).and(h -> h.shorts(5, 1));
    due.asked("opened they are two", openedTo, h -> h.mixed(), 1);
    House.Calls told = SEVEN.and(Made.named("a_b")).and(h -> h.rename(0, "a"));
    due.asked("a rename told is no name", told, h -> h.mixed(), 1);
    due.asked("one made is", told.and(h -> h.turn()), h -> h.mixed(), 0);
  }

  // ---- 19

  private static void strange() {
    due.test("19", "How many PARTS of THINGS' NAMES are no WORDS", BookTest::strangeParts);
    due.test("19", "(as they are", BookTest::strangeAsTheyAre);
    due.test("19", "but those of digits)", BookTest::strangeDigits);
  }

  private static void strangeParts() {
    due.asked("no things", Made.book("a"), h -> h.strange(), 0);
    due.asked("all", Made.named("aBC", "a_a"), h -> h.strange(), 4);
    due.asked("but words", Made.book("a").and(Made.named("aBC", "a_a")), h -> h.strange(), 1);
    due.asked("none", Made.book("a", "bc").and(Made.named("aBC", "a_a")), h -> h.strange(), 0);
    String thirteen = "abcdefghijklm";
    due.asked("too long for a word", Made.book("a").and(Made.named(thirteen)), h -> h.strange(), 1);
    House.Calls full = Made.deep(20).and(h -> {
      for (int s = 0; s < 20; s++) {
        h.thing(s, s % 3, "a_b_c_d_e_f_g_h_i_j_k_l");
      }
    });
    due.is("in all scopes and kinds", House.of(full).strange(), 240);
    House.Calls told = Made.named("a").and(h -> h.rename(0, "b_c"));
    due.asked("a rename told is no name", told, h -> h.strange(), 1);
    due.asked("one made is", told.and(h -> h.turn()), h -> h.strange(), 2);
  }

  private static void strangeAsTheyAre() {
    House.Calls made = Made.book("a", "zz").and(Made.named("a_b"));
    due.asked("a short word is one", made.and(h -> h.shorts(0, 1)), h -> h.strange(), 1);
    House.Calls ring = made.and(h -> h.shorts(0, 1)).and(h -> h.shorts(1, 0));
    due.asked("in a ring too", ring, h -> h.strange(), 1);
    due.asked("an alike one is", made.and(h -> h.alike(0, 1)), h -> h.strange(), 1);
  }

  private static void strangeDigits() {
    due.asked("one", Made.named("a1"), h -> h.strange(), 1);
    due.asked("many", Made.named("a1b2c3d4e5f6g7h8i9j0k1l2"), h -> h.strange(), 12);
    due.asked("a row of them", Made.book("a").and(Made.named("a0123456789")), h -> h.strange(), 0);
    due.asked("between lines", Made.book("a").and(Made.named("_0_a_9_")), h -> h.strange(), 0);
  }
}
