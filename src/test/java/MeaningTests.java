/** Term IV: what a USE means, RENAMES, SAFE, HINDERED. */
final class MeaningTests {
  private static Due due;

  private MeaningTests() {
  }

  static void all(Due told) {
    due = told;
    due.test("IV", "A USE in a SCOPE means the THING of its NAME in that SCOPE", MeaningTests::inThatScope);
    due.test("IV", "else in the one around, and so on", MeaningTests::around);
    due.test("IV", "it must mean one as it is told", MeaningTests::mustMeanOne);
    due.test("IV", "RENAMES told: of THINGS new NAMES (one of each)", MeaningTests::oneOfEach);
    due.test("IV", "All made at once they are SAFE if no two THINGS of one SCOPE have one NAME then",
        MeaningTests::noTwo);
    due.test("IV", "and each USE, its NAME being that of the THING it means, means it still",
        MeaningTests::meansItStill);
    due.test("IV", "HINDERED by: the first THING, by number, whose NAME another one of its SCOPE with a"
        + " lesser number has then, if there is one", MeaningTests::firstThing);
    due.test("IV", "else the first USE that means another one then", MeaningTests::firstUse);
  }

  private static void inThatScope() {
    House.Calls each = Made.deep(20).and(h -> {
      for (int s = 0; s < 20; s++) {
        h.thing(19 - s, 0, "a");
      }
    });
    House h = House.of(each);
    for (int s = 0; s < 20; s++) {
      due.is("use in scope " + s, h.use(s, "a"), s);
      due.is("means its thing", h.means(s, 1), 19 - s);
      due.is("found there", h.find(s, "a"), 19 - s);
    }
  }

  private static void around() {
    House.Calls two = Made.deep(20).and(h -> {
      h.thing(10, 0, "a");
      h.thing(0, 0, "a");
      h.thing(0, 0, "b");
    });
    House h = House.of(two);
    for (int s = 0; s < 20; s++) {
      due.is("use in scope " + s, h.use(s, "a"), s);
      due.is("means the nearest around", h.means(s, 1), s < 10 ? 1 : 0);
      due.is("found around", h.find(s, "b"), 2);
    }
    House tree = new House();
    tree.scope(0);
    tree.scope(0);
    tree.scope(1);
    tree.scope(2);
    tree.thing(0, 0, "a");
    tree.thing(2, 0, "a");
    int[] meant = {0, 0, 1, 0, 1};
    for (int s = 0; s < 5; s++) {
      due.is("not in one beside, from " + s, tree.find(s, "a"), meant[s]);
    }
  }

  private static void mustMeanOne() {
    House.Calls made = h -> {
      h.scope(0);
      h.scope(0);
      h.scope(1);
      h.thing(1, 0, "a");
    };
    due.refused("from around", made, h -> h.use(0, "a"), 6);
    due.refused("from beside", made, h -> h.use(2, "a"), 6);
    due.refused("another name", made, h -> h.use(1, "b"), 6);
    due.refused("a longer name", made, h -> h.use(1, "aa"), 6);
    due.refused("a great letter", made, h -> h.use(1, "A"), 6);
    due.refused("a rename told is no name yet", made.and(h -> h.rename(0, "b")), h -> h.use(1, "b"), 6);
    due.accepted("from its scope", made, h -> h.use(1, "a"), 0);
    due.accepted("from within", made, h -> h.use(3, "a"), 0);
    House.Calls turned = made.and(h -> h.rename(0, "b")).and(h -> h.turn());
    due.refused("the old name", turned, h -> h.use(1, "a"), 6);
    due.accepted("the new name", turned, h -> h.use(1, "b"), 0);
  }

  private static void oneOfEach() {
    House h = House.of(Made.things(80));
    for (int t = 0; t < 80; t++) {
      due.is("of each", h.rename(t, "m" + t), t + 1);
    }
    due.is("once more", h.rename(79, "x"), 80);
    due.is("and of the first", h.rename(0, "longest_name_of_them_all"), 80);
    due.is("all are made", h.turn(), 80);
    due.is("the latest of the first", h.name(0), "longest_name_of_them_all");
    due.is("the latest of the last", h.name(79), "x");
    due.is("another", h.name(1), "m1");
  }

  /** Things a, b, c, d of the outermost scope, and e of one within. */
  private static final House.Calls FIVE = Made.named("a", "b", "c", "d").and(h -> {
    h.scope(0);
    h.thing(1, 0, "e");
  });

  /** Renames of things, each by its number and its new name: "0 b 1 a". */
  private static House.Calls renamed(String all) {
    return h -> {
      String[] each = all.split(" ");
      for (int i = 0; i + 1 < each.length; i += 2) {
        h.rename(Integer.parseInt(each[i]), each[i + 1]);
      }
    };
  }

  private static void hindered(House.Calls made, String renames, int by) {
    House.Calls told = made.and(renamed(renames));
    due.asked("hinders, by " + renames, told, h -> h.hinders(), by);
    if (by == -2) {
      due.accepted("turn, by " + renames, told, h -> h.turn(), House.of(told).count(4));
    } else {
      due.refused("turn, by " + renames, told, h -> h.turn(), 5);
    }
  }

  private static void noTwo() {
    hindered(FIVE, "", -2);
    hindered(FIVE, "0 x", -2);
    hindered(FIVE, "0 a", -2);
    hindered(FIVE, "0 b", 1);
    hindered(FIVE, "1 a", 1);
    hindered(FIVE, "0 A", -2);
    hindered(FIVE, "0 bb", -2);
    hindered(FIVE, "0 x 1 x", 1);
    hindered(FIVE, "0 b 1 a", -2);
    hindered(FIVE, "0 b 1 x", -2);
    hindered(FIVE, "0 b 1 c 2 d 3 a", -2);
    hindered(FIVE, "0 b 1 c 2 d 3 d", 3);
    hindered(FIVE, "0 e 4 a", -2);
    hindered(FIVE, "4 a", -2);
    hindered(FIVE, "0 e", -2);
    hindered(FIVE, "0 x 4 x", -2);
  }

  /** Things a, b, c, each within the scope of the one ahead; uses of a and b in each scope that may. */
  private static final House.Calls NEST = Made.deep(3).and(h -> {
    h.thing(0, 0, "a");
    h.thing(1, 0, "b");
    h.thing(2, 0, "c");
    h.scope(1);
    h.thing(3, 0, "s");
    h.use(0, "a");
    h.use(2, "b");
    h.use(2, "a");
    h.use(1, "b");
  });

  private static void meansItStill() {
    hindered(NEST, "", -2);
    hindered(NEST, "2 b", 1001);
    hindered(NEST, "2 a", 1002);
    hindered(NEST, "1 a", 1002);
    hindered(NEST, "0 b", 1002);
    hindered(NEST, "0 c", 1002);
    hindered(NEST, "1 c", 1001);
    hindered(NEST, "3 a", -2);
    hindered(NEST, "3 b", -2);
    hindered(NEST, "3 c", -2);
    hindered(NEST, "0 s", -2);
    hindered(NEST, "1 d 2 b", -2);
    hindered(NEST, "0 b 1 a", -2);
    hindered(NEST, "0 b 1 c 2 a", -2);
    hindered(NEST, "0 x 1 x", 1002);
    hindered(NEST, "1 x 2 x", 1001);
    hindered(NEST, "0 x 2 x", 1002);
    hindered(NEST, "0 c 2 x", -2);
    House h = House.of(NEST.and(renamed("0 b 1 c 2 a")).and(c -> c.turn()));
    int[] meant = {0, 1, 0, 1};
    for (int u = 0; u < 4; u++) {
      due.is("use " + u + " behind the turn", h.means(u, 1), meant[u]);
    }
  }

  private static void firstThing() {
    hindered(FIVE, "0 d", 3);
    hindered(FIVE, "3 a", 3);
    hindered(FIVE, "0 d 2 b", 2);
    hindered(FIVE, "0 x 1 x 2 x 3 x", 1);
    hindered(FIVE, "0 x 1 y 2 y 3 x", 2);
    hindered(FIVE, "0 x 1 y 2 x 3 y", 2);
    hindered(FIVE, "1 y 2 z 3 y", 3);
    hindered(NEST.and(h -> h.thing(0, 0, "z")), "0 z 2 b", 4);
    hindered(NEST.and(h -> h.thing(2, 0, "z")), "2 a 4 a", 4);
    hindered(Made.things(80), "0 n79", 79);
    hindered(Made.things(80), "79 n78", 79);
    hindered(Made.things(80), "79 n0", 79);
    hindered(Made.things(80), "0 n1", 1);
  }

  private static void firstUse() {
    hindered(NEST, "2 b 0 b", 1001);
    hindered(NEST, "1 a 2 b", 1002);
    House.Calls lastOne = Made.deep(2).and(Made.uses(149)).and(h -> {
      h.use(1, "a");
      h.thing(1, 0, "b");
    });
    hindered(lastOne, "1 a", 1149);
    hindered(lastOne, "0 b", 1149);
    House.Calls firstOne = Made.deep(2).and(h -> {
      h.thing(0, 0, "a");
      h.use(1, "a");
      h.use(1, "a");
      h.thing(1, 0, "b");
    });
    hindered(firstOne, "1 a", 1000);
    hindered(firstOne, "0 b", 1000);
  }
}
