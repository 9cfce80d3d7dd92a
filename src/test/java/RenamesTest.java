/** Promises 20 to 30: offers, renames made in one turn, counts and trouble. */
public final class RenamesTest {
  private static final Due due =
      new Due("RenamesTest", "20", "21", "22", "23", "24", "25", "26", "27", "28", "29", "30");

  public static void main(String[] args) {
    offer();
    out();
    rename();
    renames();
    none();
    hinders();
    turn();
    back();
    keep();
    count();
    trouble();
    due.end();
  }

  /** cnt short for count; a name that is offered another, and one that isn't. */
  private static final House.Calls COUNTS = Made.book("cnt", "count").and(h -> h.shorts(0, 1))
      .and(Made.named("my_cnt", "other", "_1a", "CNT"));

  /** Renames of things, each by its number and its new name: "0 b 1 a". */
  private static House.Calls renamed(String all) {
    return h -> {
      String[] each = all.split(" ");
      for (int i = 0; i + 1 < each.length; i += 2) {
        h.rename(Integer.parseInt(each[i]), each[i + 1]);
      }
    };
  }

  private static House.Calls turned(String all) {
    return renamed(all).and(h -> h.turn());
  }

  /** The names of all things, with blanks between. */
  private static String names(House h) {
    StringBuilder all = new StringBuilder();
    int things = h.count(1);
    for (int t = 0; t < things; t++) {
      all.append(t == 0 ? "" : " ").append(h.name(t));
    }
    return all.toString();
  }

  // ---- 20

  private static void offer() {
    due.test("20", "OUT is the OFFER for a THING: how many bytes", RenamesTest::offerBytes);
    due.test("20", "-2, and OUT stays, if there is none", RenamesTest::offerThereIsNone);
    due.test("20", "or it is its NAME", RenamesTest::offerIsItsName);
    due.test("20", "NONE (1)", RenamesTest::offerNone);
  }

  private static void offers(House.Calls made, int thing, String want) {
    due.accepted("of " + want, made, h -> h.offer(thing), want.length());
    House h = House.of(made.and(c -> c.offer(thing)));
    due.is("OUT", h.out(), want);
    due.is("its bytes", h.count(5), want.length());
    due.is("the names stay", names(h), names(House.of(made)));
    due.is("no rename is told", h.count(4), House.of(made).count(4));
  }

  private static void offerBytes() {
    offers(COUNTS, 0, "my_count");
    offers(COUNTS, 3, "Count");
    offers(Made.named("_a"), 0, "a");
    offers(Made.named("_" + "a".repeat(23)), 0, "a".repeat(23));
    House.Calls most = Made.book("a", "abcdefghijkl").and(h -> h.shorts(0, 1)).and(Made.named("aA"));
    offers(most, 0, "abcdefghijklAbcdefghijkl");
    offers(Made.things(79).and(Made.named("z_Z")), 79, "zZ");
    House.Calls two = COUNTS.and(h -> h.offer(0));
    offers(two, 3, "Count");
    offers(COUNTS.and(h -> h.offer(3)), 0, "my_count");
    offers(COUNTS.and(h -> h.rename(0, "zzz")), 0, "my_count");
    House.Calls told = two.and(h -> h.rename(0, "x")).and(h -> h.turn());
    due.is("OUT stays when names change", House.of(told).out(), "my_count");
  }

  private static void offerStays(House.Calls made, int thing) {
    due.accepted("of " + thing, made, h -> h.offer(thing), -2);
    due.same("nothing changes", made.and(h -> h.offer(thing)), made);
    due.is("OUT is empty", House.of(made.and(h -> h.offer(thing))).count(5), 0);
    House.Calls shown = made.and(h -> h.thing(0, 0, "zz_Zz")).and(h -> h.offer(h.count(1) - 1));
    due.same("nothing changes, OUT either", shown.and(h -> h.offer(thing)), shown);
    due.is("OUT stays", House.of(shown.and(h -> h.offer(thing))).out(), "zzZz");
  }

  private static void offerThereIsNone() {
    offerStays(COUNTS, 2);
    String[] digitFirst = {"_1a", "_1A", "_1aB", "_1Ab"};
    for (int t = 0; t < digitFirst.length; t++) {
      offerStays(Made.named(digitFirst), t);
    }
    House.Calls tooLong = Made.book("cnt", "count").and(h -> h.shorts(0, 1))
        .and(Made.named("a".repeat(19) + "_cnt", "a".repeat(20) + "Cnt"));
    offerStays(tooLong, 0);
    offerStays(tooLong, 1);
    due.is("one behind a too long one", House.of(tooLong.and(h -> h.thing(0, 0, "cnt"))
        .and(h -> h.offer(0))).offer(2), 5);
    due.is("of three but the too long ones",
        House.of(tooLong.and(h -> h.thing(0, 0, "cnt"))).renames(), 1);
    House.Calls farTooLong = Made.book("a", "abcdefghijkl").and(h -> h.shorts(0, 1))
        .and(Made.named("a_a_a_a_a_a_a_a_a_a_a_a"));
    offerStays(farTooLong, 0);
  }

  private static void offerIsItsName() {
    offerStays(COUNTS, 1);
    String[] same = {"a", "A", "aB", "AbCd", "a_b", "A_B", "a1", "my_1_item", "abcdefghijklmnopqrstuvwx"};
    for (int t = 0; t < same.length; t++) {
      offerStays(Made.named(same), t);
    }
    offerStays(Made.book("count", "cnt").and(h -> h.shorts(1, 0)).and(Made.named("count")), 0);
  }

  private static void offerNone() {
    House.Calls shown = COUNTS.and(h -> h.offer(0));
    for (int thing : Made.outside(4)) {
      due.refused("thing " + thing, COUNTS, h -> h.offer(thing), 1);
      due.refused("thing " + thing + ", OUT stays", shown, h -> h.offer(thing), 1);
    }
    for (int thing : Made.outside(80)) {
      due.is("thing " + thing + " of eighty", House.of(Made.things(80)).offer(thing), -1);
    }
  }

  // ---- 21

  private static void out() {
    due.test("21", "Byte i of OUT", RenamesTest::outBytes);
    due.test("21", "NoSuchElementException if there is none such", RenamesTest::outThrows);
  }

  private static void outBytes() {
    String most = "abcdefghijklAbcdefghijkl";
    House.Calls made = Made.book("a", "abcdefghijkl").and(h -> h.shorts(0, 1)).and(Made.named("aA"))
        .and(h -> h.offer(0));
    for (int i = 0; i < 24; i++) {
      int at = i;
      due.asked("byte " + i, made, h -> h.out(at), most.charAt(i));
    }
    due.asked("the only byte", Made.named("_z").and(h -> h.offer(0)), h -> h.out(0), 'z');
    due.asked("a digit", Made.named("_z9").and(h -> h.offer(0)), h -> h.out(2), '9');
    due.asked("a line", Made.named("_z9").and(h -> h.offer(0)), h -> h.out(1), '_');
    due.asked("renames() leaves it", made.and(h -> h.thing(0, 0, "__b")).and(h -> h.renames()),
        h -> h.out(23), 'l');
  }

  private static void outThrows() {
    due.asked("ahead of an offer", COUNTS, h -> h.out(0), House.THROWN);
    due.asked("behind renames() alone", COUNTS.and(h -> h.renames()), h -> h.out(0), House.THROWN);
    House.Calls three = Made.named("a_Bc").and(h -> h.offer(0));
    for (int i : Made.outside(3)) {
      due.asked("byte " + i, three, h -> h.out(i), House.THROWN);
    }
    House.Calls shorter = COUNTS.and(h -> h.offer(0)).and(h -> h.offer(3));
    due.asked("what a longer one left", shorter, h -> h.out(5), House.THROWN);
    House.Calls most = Made.book("a", "abcdefghijkl").and(h -> h.shorts(0, 1)).and(Made.named("aA"))
        .and(h -> h.offer(0));
    for (int i : Made.outside(24)) {
      due.asked("byte " + i + " of 24", most, h -> h.out(i), House.THROWN);
    }
  }

  // ---- 22

  private static void rename() {
    due.test("22", "A RENAME of a THING to a NAME", RenamesTest::renameTold);
    due.test("22", "(in place of the one told of it)", RenamesTest::renameInPlace);
    due.test("22", "how many there are", RenamesTest::renameCount);
    due.test("22", "NONE: 1", RenamesTest::renameNoThing);
    due.test("22", "; 2", RenamesTest::renameNoName);
  }

  private static void renameTold() {
    House h = House.of(Made.named("a", "b").and(renamed("1 abcdefghijklmnopqrstuvwx")));
    due.is("no name changes yet", names(h), "a b");
    due.is("made", h.turn(), 1);
    due.is("then", names(h), "a abcdefghijklmnopqrstuvwx");
    House own = House.of(Made.named("a", "b").and(turned("0 a")));
    due.is("to its own name", names(own), "a b");
    due.accepted("to its own name", Made.named("a"), c -> c.rename(0, "a"), 1);
    due.accepted("to another's name", Made.named("a", "b"), c -> c.rename(0, "b"), 1);
    due.accepted("of the last", Made.things(80), c -> c.rename(79, "n0"), 1);
  }

  private static void renameInPlace() {
    House.Calls twice = Made.named("a", "b").and(renamed("0 longer_name 0 c"));
    due.is("one is there", House.of(twice).count(4), 1);
    due.is("the latest is made", names(House.of(twice.and(h -> h.turn()))), "c b");
    due.same("as if told once", twice, Made.named("a", "b").and(renamed("0 c")));
    House.Calls offered = COUNTS.and(h -> h.renames()).and(renamed("0 z"));
    due.is("in place of an offer", names(House.of(offered.and(h -> h.turn()))), "z other _1a Count");
  }

  private static void renameCount() {
    House h = House.of(Made.named("a", "b", "c"));
    due.is("one", h.rename(2, "x"), 1);
    due.is("two", h.rename(0, "y"), 2);
    due.is("in place", h.rename(2, "z"), 2);
    due.is("three", h.rename(1, "w"), 3);
    due.is("counted", h.count(4), 3);
    House all = House.of(Made.things(80));
    for (int t = 79; t >= 0; t--) {
      due.is("of all", all.rename(t, "x"), 80 - t);
    }
  }

  private static void renameNoThing() {
    House.Calls fed = Made.named("a", "b").and(renamed("0 c")).and(Made.tape(40));
    for (int thing : Made.outside(2)) {
      due.refused("thing " + thing, fed, h -> h.rename(thing, 3), 1);
    }
    due.refused("ahead of a wrong n", fed, h -> h.rename(2, 41), 1);
    due.refused("ahead of no name", fed, h -> h.rename(2, 0), 1);
    for (int thing : Made.outside(80)) {
      due.is("thing " + thing + " of eighty",
          House.of(Made.things(80).and(Made.tape(20))).rename(thing, 3), -1);
    }
  }

  private static void renameNoName() {
    House.Calls told = Made.named("a", "b").and(renamed("0 c"));
    House.Calls fed = told.and(Made.tape(20));
    int[] wrong = {-1, -2, Made.LEAST, 21, 200, 201, Made.GREATEST};
    for (int n : wrong) {
      due.refused("by " + n, fed, h -> h.rename(0, n), 2);
    }
    String[] none = {"", "_", "1", "1a", "_1", "a b", "a-", "\u00e9a", "a".repeat(25), "a".repeat(200)};
    for (String text : none) {
      due.refused("'" + text + "', in place", told, h -> h.rename(0, text), 2);
      due.refused("'" + text + "', anew", told, h -> h.rename(1, text), 2);
    }
  }

  // ---- 23

  private static void renames() {
    due.test("23", "RENAMES of all THINGS for which there is an OFFER that isn't its NAME",
        RenamesTest::renamesOfOffers);
    due.test("23", "(in place of those told)", RenamesTest::renamesInPlace);
    due.test("23", "how many", RenamesTest::renamesCount);
  }

  private static void renamesOfOffers() {
    due.same("as if told one by one", COUNTS.and(h -> h.renames()),
        COUNTS.and(renamed("0 my_count 3 Count")));
    House h = House.of(COUNTS.and(c -> c.renames()));
    due.is("no name changes yet", names(h), "my_cnt other _1a CNT");
    h.turn();
    due.is("then", names(h), "my_count other _1a Count");
    due.is("and none is offered any more", h.renames(), 0);
    House.Calls later = Made.book("big", "large").and(c -> c.alike(0, 1))
        .and(Made.named("large", "largeBox", "my_big"));
    due.is("by what is used most", names(House.of(later.and(c -> c.renames()).and(c -> c.turn()))),
        "large largeBox my_large");
    House.Calls heads = Made.book("big", "large").and(c -> c.alike(0, 1))
        .and(Made.named("big", "bigBox", "large", "my_large"));
    House all = House.of(heads.and(c -> c.renames()));
    due.is("by the names as they are", all.turn(), -1);
    due.is("two would be big", all.hinders(), 2);
    due.is("what can stays", all.keep(), 1);
    all.turn();
    due.is("made", names(all), "big bigBox large my_big");
  }

  private static void renamesInPlace() {
    House.Calls told = COUNTS.and(renamed("0 x 1 y 2 z"));
    due.same("all that were told go", told.and(h -> h.renames()), COUNTS.and(h -> h.renames()));
    due.is("made", names(House.of(told.and(h -> h.renames()).and(h -> h.turn()))),
        "my_count other _1a Count");
    House.Calls nothing = Made.named("a", "b").and(renamed("0 x"));
    due.same("also for no offers", nothing.and(h -> h.renames()), Made.named("a", "b"));
    due.same("twice", COUNTS.and(h -> h.renames()).and(h -> h.renames()), COUNTS.and(h -> h.renames()));
  }

  private static void renamesCount() {
    due.is("two", House.of(COUNTS).renames(), 2);
    due.is("though one was told", House.of(COUNTS.and(renamed("1 y"))).renames(), 2);
    due.is("no things", House.of(Made.words(2)).renames(), 0);
    due.is("no offers", House.of(Made.named("a", "_1a")).renames(), 0);
    House.Calls all = h -> {
      for (int t = 0; t < 80; t++) {
        h.thing(0, 0, "_n" + (char) ('a' + t % 26) + (char) ('a' + t / 26));
      }
    };
    due.is("eighty", House.of(all).renames(), 80);
    due.is("eighty counted", House.of(all.and(h -> h.renames())).count(4), 80);
    due.leavesTrouble("renames", COUNTS, h -> h.renames());
  }

  // ---- 24

  private static void none() {
    due.test("24", "No RENAMES", RenamesTest::noRenames);
    due.test("24", "how many there were", RenamesTest::noneCount);
  }

  private static void noRenames() {
    House.Calls told = Made.named("a", "b").and(renamed("0 x 1 y"));
    due.same("as if none were told", told.and(h -> h.none()), Made.named("a", "b"));
    due.same("none twice", told.and(h -> h.none()).and(h -> h.none()), Made.named("a", "b"));
    due.same("told anew", told.and(h -> h.none()).and(renamed("0 z")),
        Made.named("a", "b").and(renamed("0 z")));
    due.same("offers", COUNTS.and(h -> h.renames()).and(h -> h.none()), COUNTS);
    due.leavesTrouble("none", told, h -> h.none());
    House.Calls unsafe = Made.named("a", "b").and(renamed("0 b")).and(h -> h.none());
    due.asked("nothing hinders", unsafe, h -> h.hinders(), -2);
  }

  private static void noneCount() {
    due.is("none", House.of(Made.named("a")).none(), 0);
    due.is("one", House.of(Made.named("a").and(renamed("0 x 0 y"))).none(), 1);
    due.is("two", House.of(Made.named("a", "b").and(renamed("0 x 1 x"))).none(), 2);
    due.is("none any more", House.of(Made.named("a").and(renamed("0 x")).and(h -> h.none())).none(), 0);
    due.is("none behind a turn", House.of(Made.named("a").and(turned("0 x"))).none(), 0);
  }

  // ---- 25

  private static void hinders() {
    due.test("25", "Whether the RENAMES are SAFE: -2", RenamesTest::hindersNothing);
    due.test("25", "else what HINDERS: a THING's number", RenamesTest::hindersThing);
    due.test("25", "or 1,000 and a USE's", RenamesTest::hindersUse);
  }

  private static void hindered(House.Calls made, String renames, int by) {
    due.asked("by " + renames, made.and(renamed(renames)), h -> h.hinders(), by);
  }

  private static void hindersNothing() {
    hindered(Made.NEW, "", -2);
    hindered(Made.named("a", "b"), "", -2);
    hindered(Made.named("a", "b"), "0 x 1 y", -2);
    hindered(Made.named("a", "b"), "0 b 1 a", -2);
    hindered(Made.uses(3), "0 x", -2);
    due.is("of eighty", House.of(Made.things(80).and(renamed("0 n80"))).hinders(), -2);
  }

  private static void hindersThing() {
    hindered(Made.named("a", "b"), "0 b", 1);
    hindered(Made.named("a", "b"), "1 a", 1);
    hindered(Made.named("a", "b", "c"), "2 a", 2);
    hindered(Made.named("a", "b", "c"), "0 x 1 x 2 x", 1);
    hindered(Made.named("a", "b", "c").and(h -> h.use(0, "a")), "0 c", 2);
    due.is("the last", House.of(Made.things(80).and(renamed("79 n0"))).hinders(), 79);
    due.is("by the last", House.of(Made.things(80).and(renamed("0 n79"))).hinders(), 79);
  }

  private static void hindersUse() {
    House.Calls nest = Made.deep(2).and(h -> {
      h.thing(0, 0, "a");
      h.thing(1, 0, "b");
      h.use(0, "a");
      h.use(1, "a");
      h.use(1, "b");
    });
    hindered(nest, "1 a", 1001);
    hindered(nest, "0 b", 1001);
    hindered(nest, "0 b 1 a", -2);
    hindered(nest.and(h -> h.thing(1, 0, "c")), "1 a 2 a", 2);
    House.Calls first = Made.deep(2).and(h -> {
      h.thing(0, 0, "a");
      h.use(1, "a");
      h.thing(1, 0, "b");
    });
    hindered(first, "1 a", 1000);
    House.Calls last = Made.deep(2).and(Made.uses(149)).and(h -> {
      h.use(1, "a");
      h.thing(1, 0, "b");
    });
    due.is("the last", House.of(last.and(renamed("1 a"))).hinders(), 1149);
  }

  // ---- 26

  private static void turn() {
    due.test("26", "All RENAMES are made", RenamesTest::allAreMade);
    due.test("26", "(there are none then)", RenamesTest::noneThen);
    due.test("26", "how many", RenamesTest::turnCount);
    due.test("26", "NONE (5: nothing is made)", RenamesTest::nothingIsMade);
  }

  private static void allAreMade() {
    due.is("one", names(House.of(Made.named("a", "b").and(turned("0 x")))), "x b");
    due.is("all", names(House.of(Made.named("a", "b").and(turned("0 x 1 y")))), "x y");
    due.is("at once", names(House.of(Made.named("a", "b").and(turned("0 b 1 a")))), "b a");
    due.is("in a ring", names(House.of(Made.named("a", "b", "c").and(turned("0 b 1 c 2 a")))), "b c a");
    House.Calls used = Made.deep(2).and(Made.named("a", "b")).and(h -> {
      h.use(0, "a");
      h.use(1, "b");
    });
    House h = House.of(used.and(turned("0 b 1 a")));
    due.is("a use means what it meant", h.means(0, 1), 0);
    due.is("the other use too", h.means(1, 1), 1);
    due.is("found by the new name", h.find(1, "a"), 1);
    due.is("a new use by the new name", h.use(0, "b"), 2);
    due.is("which it means", h.means(2, 1), 0);
    House all = House.of(Made.things(80).and(c -> {
      for (int t = 0; t < 80; t++) {
        c.rename(t, "n" + (t + 1) % 80);
      }
    }));
    due.is("eighty in a ring", all.turn(), 80);
    due.is("the first", all.name(0), "n1");
    due.is("the last", all.name(79), "n0");
  }

  private static void noneThen() {
    House h = House.of(Made.named("a", "b").and(turned("0 x 1 y")));
    due.is("counted", h.count(4), 0);
    due.is("none", h.none(), 0);
    due.is("the next turn makes none", h.turn(), 0);
    due.is("names stay", names(h), "x y");
    due.is("told anew", h.rename(1, "z"), 1);
  }

  private static void turnCount() {
    due.accepted("none", Made.NEW, h -> h.turn(), 0);
    due.accepted("none of some", Made.named("a"), h -> h.turn(), 0);
    due.accepted("one", Made.named("a", "b").and(renamed("0 x 0 y")), h -> h.turn(), 1);
    due.accepted("two", Made.named("a", "b").and(renamed("0 x 1 y")), h -> h.turn(), 2);
    due.accepted("to its own name", Made.named("a", "b").and(renamed("0 a")), h -> h.turn(), 1);
    due.accepted("offers", COUNTS.and(h -> h.renames()), h -> h.turn(), 2);
  }

  private static void nothingIsMade() {
    House.Calls doubled = Made.named("a", "b", "c").and(renamed("0 x 1 y 2 y"));
    due.refused("two of one name", doubled, h -> h.turn(), 5);
    due.is("names", names(House.of(doubled.and(h -> h.turn()))), "a b c");
    due.is("renames are told still", House.of(doubled.and(h -> h.turn())).count(4), 3);
    House.Calls strayed = Made.deep(2).and(h -> {
      h.thing(0, 0, "a");
      h.thing(1, 0, "b");
      h.use(1, "a");
    }).and(renamed("1 a"));
    due.refused("a use that would stray", strayed, h -> h.turn(), 5);
    House.Calls ahead = Made.named("a", "b").and(turned("0 x")).and(renamed("0 b"));
    due.refused("the turn ahead can be taken back still", ahead, h -> h.turn(), 5);
    due.is("and is", House.of(ahead.and(h -> h.turn())).back(), 1);
    due.refused("eighty", Made.things(80).and(renamed("79 n0")), h -> h.turn(), 5);
  }

  // ---- 27

  private static void back() {
    due.test("27", "The latest turn() that isn't taken back yet is", RenamesTest::latestTurn);
    due.test("27", "if no THING or USE came since", RenamesTest::nothingCame);
    due.test("27", "and no other turn()", RenamesTest::noOtherTurn);
    due.test("27", "how many NAMES", RenamesTest::backCount);
    due.test("27", "NONE (6)", RenamesTest::backNone);
  }

  private static final House.Calls AB = Made.deep(2).and(Made.named("a", "b"));

  private static void latestTurn() {
    House.Calls turned = AB.and(turned("0 longer_name 1 a"));
    due.accepted("taken back", turned, h -> h.back(), 2);
    due.same("as it was", turned.and(h -> h.back()), AB);
    due.is("names", names(House.of(turned.and(h -> h.back()))), "a b");
    House.Calls used = AB.and(h -> h.use(1, "a"));
    due.same("with uses", used.and(turned("0 b 1 a")).and(h -> h.back()), used);
    House.Calls told = turned.and(renamed("1 z"));
    due.same("renames told since stay", told.and(h -> h.back()), AB.and(renamed("1 z")));
    House.Calls anew = turned.and(h -> h.back()).and(turned("0 y"));
    due.accepted("the next turn", anew, h -> h.back(), 1);
    due.is("its names", names(House.of(anew.and(h -> h.back()))), "a b");
    House.Calls all = Made.things(80).and(h -> {
      for (int t = 0; t < 80; t++) {
        h.rename(t, "m" + t);
      }
      h.turn();
    });
    House h = House.of(all);
    due.is("of eighty", h.back(), 80);
    due.is("the first", h.name(0), "n0");
    due.is("the last", h.name(79), "n79");
  }

  private static void nothingCame() {
    House.Calls turned = AB.and(turned("0 x"));
    due.refused("a thing", turned.and(h -> h.thing(0, 0, "z")), h -> h.back(), 6);
    due.refused("a thing of another scope", turned.and(h -> h.thing(1, 0, "z")), h -> h.back(), 6);
    due.refused("a use", turned.and(h -> h.use(0, "x")), h -> h.back(), 6);
    due.refused("a use of another thing", turned.and(h -> h.use(1, "b")), h -> h.back(), 6);
    House.Calls[] others = {h -> h.thing(0, 0, "b"), h -> h.use(0, "a"), h -> h.thing(0, 0, "1"),
        h -> h.thing(9, 0, 0), h -> h.use(0, "1"), h -> h.use(9, 0), h -> h.find(0, "x"),
        h -> h.scope(0), h -> h.word(0, "x"), h -> h.word(0, "X"), h -> h.rename(1, "y"),
        h -> h.renames(), h -> h.none(), h -> h.keep(), h -> h.hinders(), h -> h.offer(0),
        h -> h.shorts(0, -1), h -> h.alike(0, 0), h -> h.feed("abc")};
    for (int i = 0; i < others.length; i++) {
      House.Calls other = others[i];
      due.accepted("not by call " + i, turned.and(other), h -> h.back(), 1);
      due.is("names behind call " + i, names(House.of(turned.and(other).and(h -> h.back()))), "a b");
    }
    House.Calls full = Made.things(80).and(turned("0 x")).and(h -> h.thing(0, 0, "z"));
    due.accepted("a thing that found no room", full, h -> h.back(), 1);
    House.Calls uses = Made.uses(150).and(turned("0 x")).and(h -> h.use(0, "x"));
    due.accepted("a use that found no room", uses, h -> h.back(), 1);
  }

  private static void noOtherTurn() {
    House.Calls two = AB.and(turned("0 x")).and(turned("1 y"));
    due.accepted("the latest", two, h -> h.back(), 1);
    due.is("its names", names(House.of(two.and(h -> h.back()))), "x b");
    due.refused("not the one ahead", two.and(h -> h.back()), h -> h.back(), 6);
    House.Calls same = AB.and(turned("0 x")).and(turned("0 y"));
    due.is("of one thing", names(House.of(same.and(h -> h.back()))), "x b");
    due.refused("not the one ahead of that", same.and(h -> h.back()), h -> h.back(), 6);
    House.Calls empty = AB.and(turned("0 x")).and(h -> h.turn());
    due.accepted("one of no renames", empty, h -> h.back(), 0);
    due.is("changes nothing", names(House.of(empty.and(h -> h.back()))), "x b");
    due.refused("and stands in the way", empty.and(h -> h.back()), h -> h.back(), 6);
    House.Calls refused = AB.and(turned("0 x")).and(turned("0 b"));
    due.accepted("a refused turn() is none", refused, h -> h.back(), 1);
  }

  private static void backCount() {
    due.accepted("none", AB.and(h -> h.turn()), h -> h.back(), 0);
    due.accepted("one", AB.and(turned("0 x")), h -> h.back(), 1);
    due.accepted("two", AB.and(turned("0 x 1 y")), h -> h.back(), 2);
    due.accepted("its own name", AB.and(turned("0 a 1 y")), h -> h.back(), 2);
    due.accepted("offers", COUNTS.and(h -> h.renames()).and(h -> h.turn()), h -> h.back(), 2);
    due.accepted("one behind a turn of two", AB.and(turned("0 x 1 y")).and(turned("0 z")),
        h -> h.back(), 1);
  }

  private static void backNone() {
    due.refused("no turn yet", AB, h -> h.back(), 6);
    due.refused("in a new house", Made.NEW, h -> h.back(), 6);
    due.refused("a refused turn alone", AB.and(turned("0 b")), h -> h.back(), 6);
    due.refused("taken back already", AB.and(turned("0 x")).and(h -> h.back()), h -> h.back(), 6);
    due.refused("renames only told", AB.and(renamed("0 x")), h -> h.back(), 6);
    House.Calls came = AB.and(turned("0 x")).and(h -> h.thing(0, 0, "z"));
    due.refused("twice", came.and(h -> h.back()), h -> h.back(), 6);
  }

  // ---- 28

  private static void keep() {
    due.test("28", "RENAMES are taken by THINGS in order", RenamesTest::keepInOrder);
    due.test("28", "each if by it and those taken ahead all is SAFE", RenamesTest::keepSafe);
    due.test("28", "these stay, others go", RenamesTest::keepStays);
    due.test("28", "how many stay", RenamesTest::keepCount);
  }

  /** Of the renames told the ones that keep leaves, told by what a turn makes of them. */
  private static void keeps(House.Calls made, String told, String stay) {
    House.Calls kept = made.and(renamed(told)).and(h -> h.keep());
    due.same("of " + told, kept, made.and(renamed(stay)));
    due.asked("safe is what stays of " + told, kept, h -> h.hinders(), -2);
  }

  private static void keepInOrder() {
    keeps(Made.named("a", "b", "c"), "0 x 1 x 2 x", "0 x");
    keeps(Made.named("a", "b", "c"), "2 x 1 x 0 x", "0 x");
    keeps(Made.named("a", "b", "c"), "2 x 1 x", "1 x");
    keeps(Made.named("a", "b", "c"), "0 b 1 c 2 z", "2 z");
    keeps(Made.named("a", "b", "c"), "0 z 1 a 2 b", "0 z 1 a 2 b");
    keeps(Made.named("a", "b", "c"), "0 b 1 a", "");
  }

  private static final House.Calls NEST = Made.deep(3).and(h -> {
    h.thing(0, 0, "a");
    h.thing(1, 0, "b");
    h.thing(2, 0, "c");
    h.use(2, "a");
    h.use(2, "b");
  });

  private static void keepSafe() {
    keeps(NEST, "0 x 1 y 2 z", "0 x 1 y 2 z");
    keeps(NEST, "0 b", "");
    keeps(NEST, "0 c", "");
    keeps(NEST, "1 a", "");
    keeps(NEST, "1 c", "");
    keeps(NEST, "2 a", "");
    keeps(NEST, "2 b", "");
    keeps(NEST, "0 x 1 a", "0 x 1 a");
    keeps(NEST, "0 x 1 x", "0 x");
    keeps(NEST, "0 x 2 x", "0 x");
    keeps(NEST, "1 x 2 b", "1 x 2 b");
    keeps(NEST, "0 b 1 x 2 a", "1 x");
    keeps(NEST, "0 a 1 b 2 c", "0 a 1 b 2 c");
    House.Calls beside = NEST.and(h -> h.scope(0)).and(h -> h.thing(3, 0, "s"));
    keeps(beside, "3 a", "3 a");
    keeps(beside, "3 b", "3 b");
    keeps(Made.named("a", "b"), "0 b 1 a", "");
    House.Calls last = Made.deep(2).and(Made.uses(149)).and(h -> {
      h.use(1, "a");
      h.thing(1, 0, "b");
    });
    due.is("by the last use, the inner", House.of(last.and(renamed("1 a"))).keep(), 0);
    due.is("by the last use, the outer", House.of(last.and(renamed("0 b"))).keep(), 0);
  }

  private static void keepStays() {
    House.Calls kept = Made.named("a", "b", "c", "d").and(renamed("0 b 1 x 2 x 3 y")).and(h -> h.keep());
    due.is("no name changes", names(House.of(kept)), "a b c d");
    due.is("those that stay", House.of(kept).count(4), 2);
    due.is("they are made", names(House.of(kept.and(h -> h.turn()))), "a x c y");
    due.same("again", kept.and(h -> h.keep()), kept);
    due.same("one that went is told anew", kept.and(renamed("0 z")),
        Made.named("a", "b", "c", "d").and(renamed("0 z 1 x 3 y")));
    due.leavesTrouble("keep", Made.named("a", "b").and(renamed("0 b")), h -> h.keep());
  }

  private static void keepCount() {
    due.is("of none", House.of(Made.named("a")).keep(), 0);
    due.is("none of two", House.of(Made.named("a", "b").and(renamed("0 b 1 a"))).keep(), 0);
    due.is("one of two", House.of(Made.named("a", "b").and(renamed("0 b 1 c"))).keep(), 1);
    due.is("two of two", House.of(Made.named("a", "b").and(renamed("0 c 1 a"))).keep(), 2);
    House.Calls ring = Made.things(80).and(h -> {
      for (int t = 0; t < 80; t++) {
        h.rename(t, "n" + (t + 79) % 159);
      }
    });
    due.is("all but the first of eighty", House.of(ring).keep(), 79);
    House.Calls all = Made.things(80).and(h -> {
      for (int t = 0; t < 80; t++) {
        h.rename(t, "m" + t);
      }
    });
    due.is("eighty", House.of(all).keep(), 80);
    due.is("then made", House.of(all.and(h -> h.keep())).turn(), 80);
    House.Calls one = Made.things(80).and(h -> {
      for (int t = 0; t < 80; t++) {
        h.rename(t, "x");
      }
    });
    due.is("one of eighty", House.of(one).keep(), 1);
  }

  // ---- 29

  private static void count() {
    due.test("29", "0 SCOPES, 1 THINGS, 2 USES, 3 WORDS, 4 RENAMES", RenamesTest::counts);
    due.test("29", "5 bytes of OUT, 6 bytes of THE TAPE", RenamesTest::countBytes);
    due.test("29", "NONE for others", RenamesTest::countNone);
  }

  private static void counted(String what, House.Calls made, int... want) {
    for (int i = 0; i < want.length; i++) {
      int number = i;
      due.is(what + ", count " + i, House.of(made).count(number), want[i]);
    }
    due.leavesTrouble(what, made, h -> h.count(0));
  }

  private static void counts() {
    counted("a new house", Made.NEW, 1, 0, 0, 0, 0);
    House.Calls some = Made.deep(3).and(Made.named("a_B", "b", "c", "d")).and(Made.words(5))
        .and(h -> {
          h.use(1, "b");
          h.use(1, "b");
        }).and(renamed("0 x 1 y 1 z"));
    counted("some", some, 3, 4, 2, 5, 2);
    counted("refused ones don't count", some.and(h -> {
      h.scope(3);
      h.thing(0, 0, "b");
      h.use(0, "z");
      h.word(0, Made.word(0));
      h.rename(4, 0);
    }), 3, 4, 2, 5, 2);
    counted("scopes", Made.deep(20), 20, 0, 0, 0, 0);
    counted("things", Made.things(80), 1, 80, 0, 0, 0);
    counted("uses", Made.uses(150), 1, 1, 150, 0, 0);
    counted("words", Made.words(60), 1, 0, 0, 60, 0);
    counted("renames", Made.things(80).and(h -> {
      for (int t = 0; t < 80; t++) {
        h.rename(t, "x");
      }
    }), 1, 80, 0, 0, 80);
    counted("made", Made.named("a").and(turned("0 b")), 1, 1, 0, 0, 0);
  }

  private static void countBytes() {
    counted("a new house", Made.NEW, 1, 0, 0, 0, 0, 0, 0);
    counted("some", Made.named("a_B").and(h -> h.offer(0)).and(Made.tape(40)), 1, 1, 0, 0, 0, 2, 40);
    counted("most", Made.book("a", "abcdefghijkl").and(h -> h.shorts(0, 1)).and(Made.named("aA"))
        .and(h -> h.offer(0)).and(Made.tape(200)), 1, 1, 0, 2, 0, 24, 200);
    counted("one too many", Made.tape(200).and(Made.tape(20)), 1, 0, 0, 0, 0, 0, 200);
  }

  private static void countNone() {
    for (int what : Made.outside(7)) {
      due.asked("what " + what, COUNTS, h -> h.count(what), -1);
    }
  }

  // ---- 30

  private static void trouble() {
    due.test("30", "TROUBLE.", RenamesTest::troubleOfCalls);
  }

  private static void troubleOfCalls() {
    House.Calls made = COUNTS.and(h -> h.use(0, "other")).and(renamed("1 CNT")).and(Made.tape(200));
    House.Call[] leave = {h -> h.feed(0, 0, 0, 0, 0), h -> h.about(0, 0), h -> h.about(9, 9),
        h -> h.name(0, 0), h -> h.name(9, 9), h -> h.means(0, 0), h -> h.means(9, 9),
        h -> h.told(0, 0), h -> h.told(9, 9), h -> h.part(0, 0), h -> h.part(9, 9), h -> h.way(0),
        h -> h.way(9), h -> h.odd(0), h -> h.odd(9), h -> h.isOdd(0), h -> h.isOdd(9),
        h -> h.mixed(), h -> h.strange(), h -> h.out(0), h -> h.renames(), h -> h.none(),
        h -> h.hinders(), h -> h.keep(), h -> h.count(0), h -> h.count(9), h -> h.trouble()};
    for (int i = 0; i < leave.length; i++) {
      due.leavesTrouble("call " + i, made, leave[i]);
      due.leavesTrouble("call " + i + " behind trouble 6", made.and(h -> h.back()), leave[i]);
    }
    House h = new House();
    int[] want = {6, 1, 2, 2, 6, 0, 4, 5, 0, 3};
    House.Call[] calls = {c -> c.back(), c -> c.scope(7), c -> c.word(99, 0), c -> c.thing(0, 0, "1"),
        c -> c.use(0, "a"), c -> c.thing(0, 0, "a"), c -> c.thing(0, 0, "a"),
        c -> c.thing(0, 0, "b") + c.rename(0, "b") + c.turn(), c -> c.none() + c.turn(),
        c -> {
          Made.deep(20).on(c);
          return c.scope(0);
        }};
    for (int i = 0; i < want.length; i++) {
      calls[i].on(h);
      due.is("behind call " + i, h.trouble(), want[i]);
      due.is("asked again", h.trouble(), want[i]);
    }
  }
}
