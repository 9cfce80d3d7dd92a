/** Promises 20 to 30: offers, renames made in one turn, counts and trouble. */
public final class RenamesTest {
  private static final int LOW = Integer.MIN_VALUE;
  private static final int HIGH = Integer.MAX_VALUE;
  private static final Due due = new Due("RenamesTest");

  public static void main(String[] args) {
    offer();
    offerStyles();
    offerThatIsNone();
    out();
    rename();
    renames();
    none();
    hinders();
    hindersByUses();
    turn();
    back();
    backRefused();
    keep();
    keepAll();
    fullHouse();
    count();
    trouble();
    due.end();
  }

  private static NameHouse bookOfCounts() {
    NameHouse x = new NameHouse();
    Due.word(x, 2, "cnt");
    Due.word(x, 2, "count");
    Due.word(x, 2, "size");
    x.shorts(0, 1);
    x.alike(1, 2);
    return x;
  }

  private static void checkOffer(String name, String want) {
    NameHouse x = bookOfCounts();
    Due.thing(x, 0, 0, "size_size_size_size");
    int t = Due.thing(x, 0, 0, name);
    boolean some = !want.isEmpty();
    due.accepted("20: offer for " + name, x, x.offer(t), some ? want.length() : -2);
    due.is("20: offer for " + name, Due.out(x), want);
    due.is("20: its name stays", Due.name(x, t), name);
  }

  private static void offer() {
    checkOffer("cnt", "size");
    checkOffer("count", "size");
    checkOffer("size", "");
    checkOffer("itemCnt", "itemSize");
    checkOffer("cntOf", "sizeOf");
    checkOffer("other", "");
    NameHouse x = bookOfCounts();
    Due.thing(x, 0, 0, "cnt");
    due.is("20: opened, and the head by use", x.offer(0), 5);
    due.is("20: count", Due.out(x), "count");
    Due.thing(x, 0, 0, "itemSize");
    due.is("20: the first in the book of as great ones", x.offer(1), 9);
    due.is("20: itemCount", Due.out(x), "itemCount");
    due.is("20: none for it", x.offer(0), 5);
    Due.thing(x, 0, 0, "count");
    due.is("20: its name", x.offer(2), -2);
    due.is("20: out stays", Due.out(x), "count");
    int[] wrong = {-1, 3, 80, HIGH, LOW};
    for (int t : wrong) {
      due.refused("20: thing " + t, x, x.offer(t), 1);
    }
    due.is("20: out stays when refused", Due.out(x), "count");
    due.is("20: not refused", x.offer(2), -2);
    due.is("20: so there is no trouble", x.trouble(), 0);
  }

  private static void offerStyles() {
    checkOffer("Cnt", "Size");
    checkOffer("CNT", "Size");
    checkOffer("CNTOf2Item", "SizeOf2Item");
    checkOffer("my_cnt_2", "my_size_2");
    checkOffer("MY_CNT_2", "MY_SIZE_2");
    checkOffer("cnt1cnt", "size1Size");
    checkOffer("HTMLPage", "HtmlPage");
    checkOffer("my_CNT", "mySize");
    checkOffer("My_cnt", "MySize");
    checkOffer("_a", "a");
    checkOffer("_A_", "A");
    checkOffer("_aB", "aB");
    checkOffer("a__b", "a_b");
    checkOffer("a1b", "a1B");
    checkOffer("a1_b", "a_1_b");
    checkOffer("A1_B", "A_1_B");
    checkOffer("a1", "");
    checkOffer("A", "");
    checkOffer("AB", "Ab");
    checkOffer("myItem", "");
    checkOffer("my_item", "");
    checkOffer("MY_ITEM", "");
  }

  private static void offerThatIsNone() {
    checkOffer("_1a", "");
    checkOffer("_1Ab", "");
    checkOffer("abcdefghijklmnopqrst_cnt", "");
    checkOffer("abcdefghijklmnopqrs_cnt", "abcdefghijklmnopqrs_size");
    checkOffer("abcdefghijklmnopqrstCnt", "abcdefghijklmnopqrstSize");
    checkOffer("abcdefghijklmnopqrstuCnt", "");
    NameHouse x = new NameHouse();
    Due.word(x, 0, "a");
    Due.word(x, 0, "abcdefghijkl");
    x.shorts(0, 1);
    Due.thing(x, 0, 0, "a_a_a_a_a_a_a_a_a_a_a_a");
    due.accepted("20: far too long", x, x.offer(0), -2);
    due.is("20: so there is nothing in out", x.count(5), 0);
    Due.thing(x, 0, 0, "aA");
    due.accepted("20: just short enough", x, x.offer(1), 24);
    due.is("20: its bytes", Due.out(x), "abcdefghijklAbcdefghijkl");
    due.accepted("20: a longer one leaves it", x, x.offer(0), -2);
    due.is("20: its bytes stay", Due.out(x), "abcdefghijklAbcdefghijkl");
  }

  private static void out() {
    NameHouse x = new NameHouse();
    due.is("21: empty", Due.outThrows(x, 0), true);
    Due.thing(x, 0, 0, "a_Bc");
    due.is("20: three bytes", x.offer(0), 3);
    due.is("21: byte 0", x.out(0), 'a');
    due.is("21: byte 1", x.out(1), 'B');
    due.is("21: byte 2", x.out(2), 'c');
    int[] wrong = {-1, 3, 24, HIGH, LOW};
    for (int i : wrong) {
      due.is("21: byte " + i, Due.outThrows(x, i), true);
    }
    x.renames();
    Due.thing(x, 0, 0, "__long__NAME");
    x.renames();
    due.is("21: renames() leaves it", Due.out(x), "aBc");
    due.is("21: leaves trouble", x.trouble(), 0);
  }

  private static void rename() {
    NameHouse x = new NameHouse();
    Due.thing(x, 0, 0, "a");
    Due.thing(x, 0, 0, "b");
    due.accepted("22: one", x, Due.rename(x, 1, "c"), 1);
    due.is("22: no name changes yet", Due.name(x, 1), "b");
    due.accepted("22: in place of it", x, Due.rename(x, 1, "dd"), 1);
    due.accepted("22: two", x, Due.rename(x, 0, "a"), 2);
    due.is("22: counted", x.count(4), 2);
    int[] wrong = {-1, 2, 80, HIGH, LOW};
    for (int t : wrong) {
      Due.feed(x, "e");
      due.refused("22: thing " + t, x, x.rename(t, 1), 1);
      due.refused("22: 1 comes ahead of 2", x, x.rename(t, -1), 1);
    }
    due.is("22: the tape is left", x.count(6), 100);
    due.refused("22: n above the tape", x, x.rename(0, 101), 2);
    due.refused("22: n below 0", x, x.rename(0, -1), 2);
    due.is("22: the tape is left by n", x.count(6), 100);
    due.refused("22: no bytes", x, x.rename(0, 0), 2);
    due.is("22: the tape is empty", x.count(6), 0);
    due.refused("22: no name", x, Due.rename(x, 0, "0a"), 2);
    due.is("22: two still", x.count(4), 2);
    due.accepted("26: made", x, x.turn(), 2);
    due.is("26: to the latest name", Due.name(x, 1), "dd");
    due.is("26: to its own", Due.name(x, 0), "a");
    due.is("27: both are taken back", x.back(), 2);
    due.is("27: b", Due.name(x, 1), "b");
  }

  private static void renames() {
    NameHouse x = bookOfCounts();
    due.is("23: no things", x.renames(), 0);
    Due.thing(x, 0, 0, "size_size");
    Due.thing(x, 0, 0, "cnt");
    Due.thing(x, 0, 0, "item");
    Due.thing(x, 0, 0, "item_COUNT");
    Due.thing(x, 0, 0, "_1a");
    // count and size are used twice each, so the first in the book is head of both.
    Due.rename(x, 2, "told");
    x.scope(9);
    due.is("23: in place of those told", x.renames(), 3);
    due.is("23: leaves trouble", x.trouble(), 1);
    due.is("23: counted", x.count(4), 3);
    due.is("26: made", x.turn(), 3);
    String[] names = {"count_count", "count", "item", "itemCount", "_1a"};
    for (int t = 0; t < names.length; t++) {
      due.is("23: thing " + t, Due.name(x, t), names[t]);
    }
    due.is("23: no more to offer", x.renames(), 0);
  }

  private static void none() {
    NameHouse x = new NameHouse();
    due.is("24: none", x.none(), 0);
    Due.thing(x, 0, 0, "a");
    Due.thing(x, 0, 0, "b");
    Due.rename(x, 0, "c");
    Due.rename(x, 1, "d");
    x.scope(9);
    due.is("24: two", x.none(), 2);
    due.is("24: leaves trouble", x.trouble(), 1);
    due.is("24: none now", x.none(), 0);
    due.is("24: none is made", x.turn(), 0);
    due.is("24: the name stays", Due.name(x, 0), "a");
    due.is("24: told anew", Due.rename(x, 1, "e"), 1);
  }

  private static void hinders() {
    NameHouse x = new NameHouse();
    due.is("25: nothing", x.hinders(), -2);
    String[] names = {"a", "b", "c", "d"};
    for (String name : names) {
      Due.thing(x, 0, 0, name);
    }
    x.scope(0);
    Due.thing(x, 1, 0, "e");
    due.is("25: no renames", x.hinders(), -2);
    Due.rename(x, 4, "a");
    due.is("25: another scope's name", x.hinders(), -2);
    Due.rename(x, 0, "d");
    due.is("25: the one with the greater number", x.hinders(), 3);
    Due.rename(x, 2, "b");
    due.is("25: the first such", x.hinders(), 2);
    Due.rename(x, 1, "z");
    due.is("25: not by a name that goes", x.hinders(), 3);
    Due.rename(x, 3, "z");
    due.is("25: two renamed alike", x.hinders(), 3);
    Due.rename(x, 3, "a");
    due.is("25: round about", x.hinders(), -2);
    x.scope(9);
    x.hinders();
    due.is("25: leaves trouble", x.trouble(), 1);
    due.is("25: leaves renames", x.count(4), 5);
  }

  private static void hindersByUses() {
    NameHouse x = new NameHouse();
    x.scope(0);
    x.scope(1);
    Due.thing(x, 0, 0, "a");
    Due.thing(x, 1, 0, "b");
    Due.thing(x, 2, 0, "c");
    Due.use(x, 0, "a");
    Due.use(x, 2, "b");
    Due.use(x, 2, "a");
    Due.use(x, 1, "b");
    Due.rename(x, 2, "b");
    due.is("25: use 1 is caught", x.hinders(), 1001);
    Due.rename(x, 2, "a");
    due.is("25: use 2 is caught", x.hinders(), 1002);
    Due.rename(x, 1, "d");
    Due.rename(x, 2, "b");
    due.is("25: the use goes along with its thing", x.hinders(), -2);
    Due.rename(x, 0, "b");
    due.is("25: use 2 means another then", x.hinders(), 1002);
    Due.rename(x, 0, "d");
    due.is("25: likewise by the one between", x.hinders(), 1002);
    Due.thing(x, 0, 0, "e");
    Due.rename(x, 3, "d");
    due.is("25: a thing comes ahead of a use", x.hinders(), 3);
    due.refused("26: not safe", x, x.turn(), 5);
    due.is("26: renames stay", x.count(4), 4);
    due.is("26: names stay", Due.name(x, 0), "a");
  }

  private static void turn() {
    NameHouse x = new NameHouse();
    due.accepted("26: none", x, x.turn(), 0);
    x.scope(0);
    Due.thing(x, 0, 0, "a");
    Due.thing(x, 0, 1, "b");
    Due.thing(x, 1, 2, "c");
    Due.use(x, 1, "a");
    Due.use(x, 0, "b");
    Due.rename(x, 0, "b");
    due.refused("26: b is there", x, x.turn(), 5);
    due.is("26: nothing is made", Due.name(x, 0), "a");
    Due.rename(x, 1, "a");
    due.accepted("26: names changed over", x, x.turn(), 2);
    due.is("26: no renames then", x.count(4), 0);
    due.is("26: thing 0", Due.name(x, 0), "b");
    due.is("26: thing 1", Due.name(x, 1), "a");
    due.is("26: use 0 means what it meant", x.means(0, 1), 0);
    due.is("26: use 1 means what it meant", x.means(1, 1), 1);
    due.is("26: found by the new name", Due.find(x, 1, "a"), 1);
    due.is("26: parts of the new name", x.about(0, 3), 1);
    due.accepted("26: none any more", x, x.turn(), 0);
    due.is("26: names stay", Due.name(x, 0), "b");
  }

  private static void back() {
    NameHouse x = new NameHouse();
    due.refused("27: no turn yet", x, x.back(), 6);
    Due.thing(x, 0, 0, "a");
    Due.thing(x, 0, 0, "b");
    Due.rename(x, 0, "longer_name");
    x.turn();
    x.scope(0);
    Due.word(x, 0, "w");
    Due.rename(x, 1, "c");
    Due.find(x, 0, "b");
    due.refused("4: a thing that doesn't come", x, Due.thing(x, 0, 0, "b"), 4);
    due.refused("5: a use that doesn't come", x, Due.use(x, 0, "a"), 6);
    due.is("22: b is there", Due.rename(x, 0, "c"), 2);
    due.refused("26: a turn that is refused", x, x.turn(), 5);
    due.accepted("27: one name", x, x.back(), 1);
    due.is("27: its name", Due.name(x, 0), "a");
    due.is("27: renames told stay", x.count(4), 2);
    due.refused("27: not twice", x, x.back(), 6);
    x.none();
    due.accepted("26: an empty turn", x, x.turn(), 0);
    due.accepted("27: is taken back", x, x.back(), 0);
    due.refused("27: once", x, x.back(), 6);
  }

  private static void backRefused() {
    NameHouse x = new NameHouse();
    Due.thing(x, 0, 0, "a");
    Due.rename(x, 0, "b");
    x.turn();
    Due.thing(x, 0, 0, "c");
    due.refused("27: a thing came", x, x.back(), 6);
    Due.rename(x, 0, "d");
    x.turn();
    Due.use(x, 0, "d");
    due.refused("27: a use came", x, x.back(), 6);
    due.is("27: the name stays", Due.name(x, 0), "d");
    Due.rename(x, 0, "e");
    x.turn();
    Due.rename(x, 1, "f");
    x.turn();
    due.accepted("27: the latest", x, x.back(), 1);
    due.is("27: c again", Due.name(x, 1), "c");
    due.refused("27: not the one ahead of it", x, x.back(), 6);
    due.is("27: e still", Due.name(x, 0), "e");
    Due.rename(x, 0, "g");
    x.turn();
    x.turn();
    due.accepted("27: the empty one", x, x.back(), 0);
    due.refused("27: and no other", x, x.back(), 6);
    due.is("27: g still", Due.name(x, 0), "g");
  }

  private static void keep() {
    NameHouse x = new NameHouse();
    due.is("28: none", x.keep(), 0);
    String[] names = {"a", "b", "c", "d"};
    for (String name : names) {
      Due.thing(x, 0, 0, name);
    }
    Due.rename(x, 0, "b");
    Due.rename(x, 1, "x");
    Due.rename(x, 2, "x");
    Due.rename(x, 3, "c");
    x.scope(9);
    due.is("28: in order, each by those ahead", x.keep(), 1);
    due.is("28: leaves trouble", x.trouble(), 1);
    due.is("28: counted", x.count(4), 1);
    due.is("28: no name changes", Due.name(x, 1), "b");
    due.accepted("26: it is made", x, x.turn(), 1);
    due.is("28: x", Due.name(x, 1), "x");
    Due.rename(x, 0, "y");
    Due.rename(x, 2, "a");
    Due.rename(x, 3, "c");
    due.is("28: a name that has gone is free", x.keep(), 3);
    due.is("28: all is safe", x.hinders(), -2);
    x.scope(0);
    Due.thing(x, 1, 0, "q");
    Due.use(x, 1, "a");
    due.refused("5: its name isn't made yet", x, Due.use(x, 1, "y"), 6);
    Due.rename(x, 4, "y");
    due.is("28: a use would stray", x.keep(), 3);
    due.is("26: three are made", x.turn(), 3);
    due.is("28: q stays", Due.name(x, 4), "q");
  }

  private static void keepAll() {
    NameHouse x = new NameHouse();
    for (int i = 0; i < 80; i++) {
      Due.thing(x, 0, 0, "n" + i);
    }
    for (int i = 0; i < 80; i++) {
      Due.rename(x, i, "n" + (i + 79));
    }
    // Alone thing 0 would take the name that thing 79 has; the others' new names are free.
    due.is("25: all at once they are safe", x.hinders(), -2);
    due.is("28: all but the first", x.keep(), 79);
    due.is("26: made", x.turn(), 79);
    due.is("28: the first", Due.name(x, 0), "n0");
    due.is("28: the last", Due.name(x, 79), "n158");
  }

  /** Each row of the house is full but the uses, for which 512 calls don't do. */
  private static void fullHouse() {
    NameHouse x = new NameHouse();
    for (int s = 1; s < 20; s++) {
      x.scope(s - 1);
    }
    for (int t = 0; t < 80; t++) {
      Due.thing(x, t / 4, t % 3, "cnt" + (char) ('A' + t % 4));
    }
    for (int u = 0; u < 80; u++) {
      Due.use(x, 19, "cnt" + (char) ('A' + u % 4));
    }
    Due.word(x, 2, "cnt");
    Due.word(x, 2, "count");
    x.shorts(0, 1);
    due.is("6: the last thing's uses", x.about(79, 6), 20);
    due.is("6: those of the one around", x.about(75, 6), 0);
    due.is("23: of all", x.renames(), 80);
    due.is("25: safe", x.hinders(), -2);
    due.is("28: one by one too", x.keep(), 80);
    Due.rename(x, 79, "countA");
    due.is("25: two of the last scope", x.hinders(), 79);
    due.is("28: all but the last", x.keep(), 79);
    due.is("26: made", x.turn(), 79);
    due.is("15: the way of each kind", x.way(0), 0x20);
    due.is("16: none is odd", x.odd(2), 0);
    due.is("13: used", x.told(1, 2), 80);
    due.is("19: the last letters are strange", x.strange(), 80);
    due.is("27: taken back", x.back(), 79);
    due.is("27: a name", Due.name(x, 0), "cntA");
  }

  private static void count() {
    NameHouse x = new NameHouse();
    x.scope(0);
    x.scope(0);
    for (int i = 0; i < 3; i++) {
      Due.thing(x, 0, 0, "a_B" + i);
    }
    for (int i = 0; i < 4; i++) {
      Due.use(x, 1, "a_B0");
    }
    for (int i = 0; i < 5; i++) {
      Due.word(x, 0, "a" + (char) ('a' + i));
    }
    x.renames();
    Due.rename(x, 0, "z");
    x.offer(2);
    x.feed(0, 0, 0, 0, 0);
    x.feed(0, 0, 0, 0, 0);
    long[] all = {3, 3, 4, 5, 3, 3, 40};
    for (int what = 0; what < all.length; what++) {
      due.is("29: count(" + what + ")", x.count(what), all[what]);
    }
    int[] wrong = {-1, 7, HIGH, LOW};
    for (int what : wrong) {
      due.is("29: count(" + what + ")", x.count(what), -1);
    }
  }

  /** Calls that can't be refused, or tell no trouble, leave it; those that can set it anew. */
  private static void trouble() {
    NameHouse x = new NameHouse();
    due.refused("30: refused", x, x.scope(5), 1);
    x.feed(0, 0, 0, 0, 0);
    x.about(0, 0);
    x.means(0, 0);
    x.told(0, 0);
    x.part(0, 0);
    x.way(0);
    x.way(9);
    x.odd(0);
    x.isOdd(0);
    x.mixed();
    x.strange();
    x.renames();
    x.none();
    x.hinders();
    x.keep();
    x.count(0);
    Due.outThrows(x, 0);
    Due.nameThrows(x, 0, 0);
    due.is("30: left by all these", x.trouble(), 1);
    due.refused("30: find, and the tape is empty", x, x.find(0, 0), 2);
    due.is("30: refused anew", x.trouble(), 2);
    due.is("30: by itself too", x.trouble(), 2);
    x.scope(0);
    due.is("30: scope", x.trouble(), 0);
    String[] calls = {"thing", "use", "find", "word", "shorts", "alike", "offer", "rename", "turn",
        "back"};
    for (String call : calls) {
      x.back();
      x.back();
      due.is("30: six ahead of " + call, x.trouble(), 6);
      accepted(x, call);
      due.is("30: no trouble behind " + call, x.trouble(), 0);
    }
  }

  private static void accepted(NameHouse x, String call) {
    switch (call) {
      case "thing" -> Due.thing(x, 0, 0, "a");
      case "use" -> Due.use(x, 0, "a");
      case "find" -> Due.find(x, 0, "nothing");
      case "word" -> Due.word(x, 0, "w");
      case "shorts" -> x.shorts(0, -1);
      case "alike" -> x.alike(0, 0);
      case "offer" -> x.offer(0);
      case "rename" -> Due.rename(x, 0, "b");
      case "turn" -> x.turn();
      default -> {
        x.turn();
        x.scope(99);
        x.back();
      }
    }
  }
}
