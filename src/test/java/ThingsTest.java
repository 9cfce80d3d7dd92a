/** Promises 1 to 9: a new object, the tape, scopes, things and uses. */
public final class ThingsTest {
  private static final Due due = new Due("ThingsTest", "1", "2", "3", "4", "5", "6", "7", "8", "9");

  public static void main(String[] args) {
    newObject();
    feed();
    scope();
    thing();
    use();
    about();
    name();
    means();
    find();
    due.end();
  }

  // ---- 1

  private static void newObject() {
    due.test("1", "SCOPE 0, nothing in it", ThingsTest::nothingInIt);
    due.test("1", "an empty BOOK", ThingsTest::emptyBook);
  }

  private static void nothingInIt() {
    House other = House.of(Made.deep(20).and(Made.named("a_B")).and(h -> h.offer(0)));
    other.rename(0, "b");
    other.feed("abc");
    int[] counts = {1, 0, 0, 0, 0, 0, 0};
    for (int i = 0; i < counts.length; i++) {
      int what = i;
      due.asked("count " + what, Made.NEW, h -> h.count(what), counts[what]);
      due.asked("about 0, " + what, Made.NEW, h -> h.about(0, what), -1);
    }
    for (int i = 0; i < 3; i++) {
      int kind = i;
      due.asked("way " + kind, Made.NEW, h -> h.way(kind), -2);
      due.asked("odd " + kind, Made.NEW, h -> h.odd(kind), 0);
    }
    due.asked("name", Made.NEW, h -> h.name(0, 0), House.THROWN);
    due.asked("means", Made.NEW, h -> h.means(0, 0), -1);
    due.asked("part", Made.NEW, h -> h.part(0, 0), -1);
    due.asked("isOdd", Made.NEW, h -> h.isOdd(0), -1);
    due.asked("strange", Made.NEW, h -> h.strange(), 0);
    due.asked("out", Made.NEW, h -> h.out(0), House.THROWN);
    due.asked("renames", Made.NEW, h -> h.renames(), 0);
    due.asked("none", Made.NEW, h -> h.none(), 0);
    due.asked("hinders", Made.NEW, h -> h.hinders(), -2);
    due.asked("keep", Made.NEW, h -> h.keep(), 0);
    due.asked("trouble", Made.NEW, h -> h.trouble(), 0);
    due.accepted("turn", Made.NEW, h -> h.turn(), 0);
    due.refused("back", Made.NEW, h -> h.back(), 6);
    due.refused("offer", Made.NEW, h -> h.offer(0), 1);
    due.refused("use", Made.NEW, h -> h.use(0, "a"), 6);
    due.accepted("find", Made.NEW, h -> h.find(0, "a"), -2);
    due.accepted("its first thing", Made.NEW, h -> h.thing(0, 0, "a"), 0);
    due.accepted("its first scope within", Made.NEW, h -> h.scope(0), 1);
    due.refused("rename", Made.NEW.and(Made.tape(20)), h -> h.rename(0, 1), 1);
  }

  private static void emptyBook() {
    for (int i = 0; i < 5; i++) {
      int what = i;
      due.asked("told 0, " + what, Made.NEW, h -> h.told(0, what), -1);
    }
    due.asked("words", Made.NEW, h -> h.count(3), 0);
    due.asked("mixed", Made.NEW, h -> h.mixed(), 0);
    due.refusedBy("shorts", 0, Made.NEW, h -> h.shorts(0, -1), 1);
    due.refusedBy("alike", 0, Made.NEW, h -> h.alike(0, 0), 1);
    due.accepted("its first word", Made.NEW, h -> h.word(0, "a"), 0);
    due.is("a part is no word", House.of(Made.named("a")).part(0, 0), -2);
    due.is("nor one of digits", House.of(Made.named("a1")).part(0, 1), -2);
    due.is("nor one too long for a word", House.of(Made.named("a".repeat(13))).part(0, 0), -2);
  }

  // ---- 2

  private static void feed() {
    due.test("2", "Twenty bytes come behind THE TAPE", ThingsTest::behindTheTape);
    due.test("2", "of each number the highest first", ThingsTest::highestFirst);
    due.test("2", "how many it has", ThingsTest::howManyItHas);
    due.test("2", "NONE, and none comes, if there would be more than 200", ThingsTest::noneComes);
  }

  private static void behindTheTape() {
    House h = new House();
    h.feed(0x61626364, 0x65666768, 0x696a6b6c, 0x6d6e6f70, 0x71727374);
    h.feed(0x75767778, -1, -1, -1, -1);
    due.is("a thing of bytes of both", h.thing(0, 0, 24), 0);
    due.is("the first ahead", h.name(0), "abcdefghijklmnopqrstuvwx");
    House full = new House();
    for (int i = 0; i < 10; i++) {
      full.feed("n" + i);
    }
    full.thing(0, 0, 2);
    due.is("the first of ten", full.name(0), "n0");
  }

  private static void highestFirst() {
    House h = new House();
    h.feed(0x41424344, 0x45464748, 0x494a4b4c, 0x4d4e4f50, 0x51525354);
    h.thing(0, 0, 20);
    due.is("five numbers", h.name(0), "ABCDEFGHIJKLMNOPQRST");
    h.feed(0x5a5f3961, 0x7affffff, -1, Made.LEAST, Made.GREATEST);
    h.thing(0, 0, 5);
    due.is("bytes ahead of great ones", h.name(1), "Z_9az");
    House.Calls low = c -> c.feed(0x00000061, 0, 0, 0, 0);
    due.is("the lowest byte is not first", House.of(low).thing(0, 0, 1), -1);
    House.Calls least = c -> c.feed(Made.LEAST + 0x616161, 0x61616161, 0, 0, 0);
    due.is("the highest byte of a number below 0", House.of(least).thing(0, 0, 2), -1);
    House.Calls ones = c -> c.feed(-1, -1, -1, -1, -1);
    due.is("all ones", House.of(ones).thing(0, 0, 20), -1);
  }

  private static void howManyItHas() {
    House h = new House();
    for (int bytes = 20; bytes <= 200; bytes += 20) {
      due.is("feed", h.feed(0, 0, 0, 0, 0), bytes);
      due.is("count", h.count(6), bytes);
    }
    h.find(0, 200);
    due.is("behind one that emptied it", h.feed(0, 0, 0, 0, 0), 20);
    due.leavesTrouble("feed", Made.NEW, c -> c.feed("abc"));
    due.leavesTrouble("feed behind a refused one", c -> c.back(), c -> c.feed("abc"));
  }

  private static void noneComes() {
    House.Calls full = Made.named("z").and(Made.tape(200));
    due.asked("one more", full, h -> h.feed("zzzzzzzzzzzzzzzzzzzz"), -1);
    due.asked("two more", full.and(h -> h.feed("zzz")), h -> h.feed("zzz"), -1);
    House.Calls almost = Made.named("z").and(Made.tape(180));
    due.is("up to 200", House.of(almost).feed("zzz"), 200);
    House h = House.of(full);
    h.feed("zzz");
    due.is("the bytes that were there", h.thing(0, 0, 5), 1);
    due.is("are there still", h.name(1), "abcde");
    due.is("room behind it", h.feed("zzz"), 20);
  }

  // ---- 3

  private static void scope() {
    due.test("3", "A SCOPE within another one: its number", ThingsTest::scopeWithin);
    due.test("3", "NONE: 1", ThingsTest::scopeAroundNone);
    due.test("3", "; 3", ThingsTest::scopeNoRoom);
  }

  private static void scopeWithin() {
    due.accepted("the first", Made.NEW, h -> h.scope(0), 1);
    due.accepted("within that", Made.deep(2), h -> h.scope(1), 2);
    due.accepted("beside that", Made.deep(2), h -> h.scope(0), 2);
    due.accepted("the last", Made.deep(19), h -> h.scope(18), 19);
    House.Calls tree = h -> {
      h.scope(0);
      h.scope(0);
      h.scope(2);
      h.thing(1, 0, "a");
      h.thing(2, 0, "b");
    };
    House h = House.of(tree);
    due.is("within the one told", h.find(3, "b"), 1);
    due.is("not within another", h.find(3, "a"), -2);
    due.is("counted", h.count(0), 4);
    House deep = House.of(Made.deep(20));
    deep.thing(19, 2, "deep");
    due.is("seen in the innermost", deep.find(19, "deep"), 0);
    due.is("not around it", deep.find(18, "deep"), -2);
  }

  private static void scopeAroundNone() {
    for (int around : Made.outside(1)) {
      due.refused("around " + around, Made.NEW, h -> h.scope(around), 1);
    }
    for (int around : Made.outside(19)) {
      due.refused("around " + around, Made.deep(19), h -> h.scope(around), 1);
    }
    for (int around : Made.outside(20)) {
      due.refused("though there is no room, around " + around, Made.deep(20), h -> h.scope(around), 1);
    }
  }

  private static void scopeNoRoom() {
    for (int s = 0; s < 20; s++) {
      int around = s;
      due.refused("around " + s, Made.deep(20), h -> h.scope(around), 3);
    }
  }

  // ---- 4

  private static void thing() {
    due.test("4", "A THING of a KIND in a SCOPE by a NAME: its number", ThingsTest::thingNumbers);
    due.test("4", "NONE: 1", ThingsTest::thingNoScope);
    due.test("4", "2 (KIND", ThingsTest::thingKind);
    due.test("4", ", n,", ThingsTest::thingBytes);
    due.test("4", "no NAME)", ThingsTest::thingNoName);
    due.test("4", "4 (that SCOPE has one of the NAME", ThingsTest::thingThere);
    due.test("4", "or a USE would mean it in place of another one)", ThingsTest::thingCatchesUse);
    due.test("4", "; 3", ThingsTest::thingNoRoom);
  }

  private static void thingNumbers() {
    House h = House.of(Made.deep(20));
    String[] names = {"a", "abcdefghijklmnopqrstuvwx", "_", "Z_9"};
    int[] scopes = {0, 19, 0, 7};
    int[] kinds = {0, 1, 0, 2};
    int[] numbers = {0, 1, -1, 2};
    for (int i = 0; i < names.length; i++) {
      due.is("number of " + names[i], h.thing(scopes[i], kinds[i], names[i]), numbers[i]);
    }
    for (int i = 0; i < names.length; i++) {
      if (numbers[i] >= 0) {
        due.is("its scope", h.about(numbers[i], 0), scopes[i]);
        due.is("its kind", h.about(numbers[i], 1), kinds[i]);
        due.is("its name", h.name(numbers[i]), names[i]);
      }
    }
    due.is("counted", h.count(1), 3);
    due.accepted("the last", Made.things(79), c -> c.thing(0, 2, "z"), 79);
  }

  private static void thingNoScope() {
    House.Calls fed = Made.deep(3).and(Made.named("n")).and(Made.tape(40));
    for (int scope : Made.outside(3)) {
      due.refused("scope " + scope, fed, h -> h.thing(scope, 0, 3), 1);
    }
    due.refused("ahead of a wrong kind", fed, h -> h.thing(3, 9, 3), 1);
    due.refused("ahead of a wrong n", fed, h -> h.thing(3, 0, 99), 1);
    due.refused("ahead of no name", fed, h -> h.thing(3, 0, 30), 1);
    House.Calls full = Made.things(80).and(h -> h.feed("n0"));
    due.refused("ahead of no room", full, h -> h.thing(1, 0, 2), 1);
    due.refused("the twenty-first", Made.deep(20).and(Made.tape(20)), h -> h.thing(20, 0, 2), 1);
  }

  private static void thingKind() {
    House.Calls fed = Made.named("n").and(Made.tape(40));
    for (int kind : Made.outside(3)) {
      due.refused("kind " + kind, fed, h -> h.thing(0, kind, 3), 2);
      due.refused("kind " + kind + ", though the name is there", Made.named("n").and(h -> h.feed("n")),
          h -> h.thing(0, kind, 1), 2);
    }
    for (int kind = 0; kind < 3; kind++) {
      int right = kind;
      due.accepted("kind " + kind, fed, h -> h.thing(0, right, 3), 1);
    }
    due.refused("ahead of no room", Made.things(80).and(Made.tape(20)), h -> h.thing(0, 3, 3), 2);
  }

  private static void thingBytes() {
    House.Calls fed = Made.named("n").and(Made.tape(20));
    int[] wrong = {-1, -2, Made.LEAST, 21, 200, 201, Made.GREATEST};
    for (int n : wrong) {
      due.refused("by " + n, fed, h -> h.thing(0, 0, n), 2);
    }
    due.accepted("by 20", fed, h -> h.thing(0, 0, 20), 1);
    due.refused("by 1 of none", Made.named("n"), h -> h.thing(0, 0, 1), 2);
    due.refused("by 201 of 200", Made.tape(200), h -> h.thing(0, 0, 201), 2);
    due.refused("ahead of no room", Made.things(80).and(Made.tape(20)), h -> h.thing(0, 0, 21), 2);
  }

  private static void thingNoName() {
    String[] wrong = {"", "_", "1", "1a", "_1", "a b", "a-", "\u00e9a", "a".repeat(25), "a".repeat(200)};
    for (String text : wrong) {
      due.refused("'" + text + "'", Made.named("n"), h -> h.thing(0, 0, text), 2);
    }
    due.refused("ahead of no room", Made.things(80), h -> h.thing(0, 0, "8"), 2);
  }

  private static void thingThere() {
    House.Calls made = Made.deep(3).and(h -> {
      h.scope(0);
      h.thing(1, 0, "name");
    });
    for (int kind = 0; kind < 3; kind++) {
      int any = kind;
      due.refused("of kind " + kind, made, h -> h.thing(1, any, "name"), 4);
    }
    due.accepted("in the scope around", made, h -> h.thing(0, 0, "name"), 1);
    due.accepted("in one within", made, h -> h.thing(2, 0, "name"), 1);
    due.accepted("in one beside", made, h -> h.thing(3, 0, "name"), 1);
    String[] others = {"Name", "NAME", "nam", "names", "_name", "name_", "eman"};
    for (String other : others) {
      due.accepted("but " + other, made, h -> h.thing(1, 0, other), 1);
    }
    House.Calls told = made.and(h -> h.rename(0, "new"));
    due.refused("its name though a rename is told", told, h -> h.thing(1, 0, "name"), 4);
    due.accepted("the name told", told, h -> h.thing(1, 0, "new"), 1);
    House.Calls turned = told.and(h -> h.turn());
    due.refused("the name that it got", turned, h -> h.thing(1, 0, "new"), 4);
    due.accepted("the name that it had", turned, h -> h.thing(1, 0, "name"), 1);
    House.Calls back = turned.and(h -> h.back());
    due.refused("the name that it has again", back, h -> h.thing(1, 0, "name"), 4);
    due.refused("ahead of no room, the first", Made.things(80), h -> h.thing(0, 0, "n0"), 4);
    due.refused("ahead of no room, the last", Made.things(80), h -> h.thing(0, 0, "n79"), 4);
  }

  /** Scopes 0 > 1 > 2 > 3, with 4 beside 1, and 5 beside 3: a of 0 is used in 2. */
  private static final House.Calls USED = Made.deep(4).and(h -> {
    h.scope(0);
    h.scope(2);
    h.thing(0, 0, "a");
    h.use(2, "a");
  });

  private static void thingCatchesUse() {
    due.refused("in the use's scope", USED, h -> h.thing(2, 0, "a"), 4);
    due.refused("between", USED, h -> h.thing(1, 0, "a"), 4);
    int[] free = {3, 4, 5};
    for (int scope : free) {
      due.accepted("in " + scope, USED, h -> h.thing(scope, 0, "a"), 1);
    }
    due.accepted("another name", USED, h -> h.thing(1, 0, "b"), 1);
    House.Calls inner = Made.deep(3).and(h -> {
      h.thing(1, 0, "a");
      h.use(2, "a");
    });
    due.accepted("around the one that is meant", inner, h -> h.thing(0, 0, "a"), 1);
    due.is("which is meant still", House.of(inner.and(h -> h.thing(0, 0, "a"))).means(0, 1), 0);
    House.Calls turned = USED.and(h -> h.rename(0, "z")).and(h -> h.turn());
    due.refused("by the new name of what the use means", turned, h -> h.thing(1, 0, "z"), 4);
    due.accepted("by the old one", turned, h -> h.thing(1, 0, "a"), 1);
    due.accepted("by one that is only told", USED.and(h -> h.rename(0, "z")), h -> h.thing(1, 0, "z"), 1);
    due.refused("again behind back", turned.and(h -> h.back()), h -> h.thing(1, 0, "a"), 4);
    House.Calls full = Made.deep(2).and(Made.things(80)).and(h -> h.use(1, "n0"));
    due.refused("ahead of no room", full, h -> h.thing(1, 0, "n0"), 4);
    House.Calls last = Made.deep(2).and(Made.uses(149)).and(h -> h.use(1, "a"));
    due.refused("by the last of all uses", last, h -> h.thing(1, 0, "a"), 4);
  }

  private static void thingNoRoom() {
    due.refused("the eighty-first", Made.things(80), h -> h.thing(0, 0, "n80"), 3);
    House h = House.of(Made.things(80));
    h.thing(0, 0, "n80");
    due.is("there is none", h.about(80, 0), -1);
    due.is("nor found", h.find(0, "n80"), -2);
  }

  // ---- 5

  private static void use() {
    due.test("5", "A USE of a NAME in a SCOPE: its number", ThingsTest::useNumbers);
    due.test("5", "NONE: 1", ThingsTest::useNoScope);
    due.test("5", "; 2", ThingsTest::useNoName);
    due.test("5", "; 6", ThingsTest::useMeansNone);
    due.test("5", "; 3", ThingsTest::useNoRoom);
  }

  private static void useNumbers() {
    House h = House.of(Made.deep(20));
    h.thing(0, 0, "a");
    h.thing(19, 0, "abcdefghijklmnopqrstuvwx");
    due.is("the first", h.use(0, "a"), 0);
    due.is("from within", h.use(19, "a"), 1);
    due.is("refused", h.use(18, "abcdefghijklmnopqrstuvwx"), -1);
    due.is("the next", h.use(19, "abcdefghijklmnopqrstuvwx"), 2);
    due.is("the same again", h.use(0, "a"), 3);
    due.is("counted", h.count(2), 4);
    due.accepted("the last", Made.uses(149), c -> c.use(0, "a"), 149);
  }

  private static void useNoScope() {
    House.Calls fed = Made.deep(3).and(Made.named("abc")).and(Made.tape(40));
    for (int scope : Made.outside(3)) {
      due.refused("scope " + scope, fed, h -> h.use(scope, 3), 1);
    }
    due.refused("ahead of a wrong n", fed, h -> h.use(3, 99), 1);
    due.refused("ahead of no name", fed, h -> h.use(3, 30), 1);
    due.refused("ahead of what means none", fed, h -> h.use(3, 4), 1);
    due.refused("ahead of no room", Made.uses(150).and(Made.tape(20)), h -> h.use(1, 1), 1);
  }

  private static void useNoName() {
    House.Calls fed = Made.named("abc").and(Made.tape(20));
    int[] wrong = {-1, -2, Made.LEAST, 21, 200, 201, Made.GREATEST};
    for (int n : wrong) {
      due.refused("by " + n, fed, h -> h.use(0, n), 2);
    }
    due.accepted("by 3", fed, h -> h.use(0, 3), 0);
    String[] none = {"", "_", "1", "1a", "_1", "a b", "a-", "\u00e9a", "a".repeat(25), "a".repeat(200)};
    for (String text : none) {
      due.refused("'" + text + "'", Made.named("abc"), h -> h.use(0, text), 2);
    }
    due.refused("ahead of no room", Made.uses(150), h -> h.use(0, "-"), 2);
    due.refused("n ahead of no room", Made.uses(150), h -> h.use(0, 1), 2);
  }

  private static void useMeansNone() {
    due.refused("no things", Made.NEW, h -> h.use(0, "a"), 6);
    due.refused("another name", Made.named("a"), h -> h.use(0, "b"), 6);
    due.refused("great for small", Made.named("a"), h -> h.use(0, "A"), 6);
    due.refused("the first byte of it", Made.named("ab"), h -> h.use(0, "a"), 6);
    due.refused("a byte more", Made.named("ab"), h -> h.use(0, "abc"), 6);
    House.Calls inner = Made.deep(2).and(h -> h.thing(1, 0, "a"));
    due.refused("from around", inner, h -> h.use(0, "a"), 6);
    due.refused("from beside", inner.and(h -> h.scope(0)), h -> h.use(2, "a"), 6);
    due.refused("ahead of no room", Made.uses(150), h -> h.use(0, "b"), 6);
  }

  private static void useNoRoom() {
    due.refused("one more", Made.uses(150), h -> h.use(0, "a"), 3);
    House h = House.of(Made.uses(150));
    h.use(0, "a");
    due.is("there is none", h.means(150, 0), -1);
    due.is("nor counted", h.about(0, 6), 150);
  }

  // ---- 6

  private static void about() {
    due.test("6", "Of a THING what 0 SCOPE", ThingsTest::aboutScope);
    due.test("6", "1 KIND", ThingsTest::aboutKind);
    due.test("6", "2 bytes of its NAME", ThingsTest::aboutBytes);
    due.test("6", "3 PARTS", ThingsTest::aboutParts);
    due.test("6", "4 STYLE", ThingsTest::aboutStyle);
    due.test("6", "5 PATTERN", ThingsTest::aboutPattern);
    due.test("6", "6 how many USES mean it", ThingsTest::aboutUses);
    due.test("6", "NONE", ThingsTest::aboutNone);
  }

  private static void aboutScope() {
    House.Calls made = Made.deep(20).and(h -> {
      for (int s = 0; s < 20; s++) {
        h.thing(19 - s, 0, "a");
      }
    });
    for (int t = 0; t < 20; t++) {
      int thing = t;
      due.asked("of " + t, made, h -> h.about(thing, 0), 19 - t);
    }
  }

  private static void aboutKind() {
    for (int t = 0; t < 3; t++) {
      int thing = t;
      due.asked("of " + t, Made.things(3), h -> h.about(thing, 1), t);
    }
    due.is("of the last", House.of(Made.things(80)).about(79, 1), 79 % 3);
  }

  private static void aboutBytes() {
    for (int i = 1; i <= 24; i++) {
      int bytes = i;
      due.asked("of " + i, Made.named("a".repeat(bytes)), h -> h.about(0, 2), bytes);
    }
    House.Calls told = Made.named("abc").and(h -> h.rename(0, "a"));
    due.is("not by a rename told", House.of(told).about(0, 2), 3);
    due.is("by one made", House.of(told.and(h -> h.turn())).about(0, 2), 1);
    due.is("by one taken back", House.of(told.and(h -> h.turn()).and(h -> h.back())).about(0, 2), 3);
  }

  private static void aboutParts() {
    due.asked("one", Made.named("a"), h -> h.about(0, 3), 1);
    due.asked("one, though lines", Made.named("_".repeat(23) + "a"), h -> h.about(0, 3), 1);
    due.asked("two", Made.named("aB"), h -> h.about(0, 3), 2);
    due.asked("most", Made.named("a1b2c3d4e5f6g7h8i9j0k1l2"), h -> h.about(0, 3), 24);
  }

  private static void aboutStyle() {
    String[] names = {"aB", "Ab", "a_b", "A_B"};
    for (int i = 0; i < 4; i++) {
      int style = i;
      due.asked("of " + names[i], Made.named(names), h -> h.about(style, 4), style);
    }
  }

  private static void aboutPattern() {
    House.Calls made = Made.named("a_b_c_d_e").and(h -> h.word(0, "a"));
    due.asked("no roles", made, h -> h.about(0, 5), 0);
    House.Calls roles = Made.named("a_b_c_d_e").and(h -> {
      h.word(8, "a");
      h.word(12, "b");
      h.word(14, "c");
      h.word(15, "d");
      h.word(15, "e");
    });
    due.asked("of roles", roles, h -> h.about(0, 5), 0x8421);
    House.Calls greatest = Made.named("d_d_d_d").and(h -> h.word(8, "d"));
    due.asked("the greatest", greatest, h -> h.about(0, 5), 0x8888);
  }

  private static void aboutUses() {
    due.asked("none", Made.uses(0), h -> h.about(0, 6), 0);
    due.asked("one", Made.uses(1), h -> h.about(0, 6), 1);
    due.is("all", House.of(Made.uses(150)).about(0, 6), 150);
    House.Calls two = Made.deep(2).and(h -> {
      h.thing(0, 0, "a");
      h.thing(1, 0, "a");
      h.use(1, "a");
      h.use(0, "a");
      h.use(1, "a");
      h.find(1, "a");
    });
    due.asked("of the outer", two, h -> h.about(0, 6), 1);
    due.asked("of the inner", two, h -> h.about(1, 6), 2);
    House.Calls turned = two.and(h -> h.rename(1, "b")).and(h -> h.turn());
    due.asked("they go along with it", turned, h -> h.about(1, 6), 2);
  }

  private static void aboutNone() {
    for (int i : Made.outside(7)) {
      due.asked("what " + i, Made.things(2), h -> h.about(0, i), -1);
    }
    for (int i : Made.outside(2)) {
      for (int w = 0; w < 7; w++) {
        int what = w;
        due.asked("thing " + i, Made.things(2), h -> h.about(i, what), -1);
      }
    }
    for (int i : Made.outside(80)) {
      due.is("thing " + i + " of eighty", House.of(Made.things(80)).about(i, 2), -1);
    }
  }

  // ---- 7

  private static void name() {
    due.test("7", "Byte i of a THING's NAME", ThingsTest::nameBytes);
    due.test("7", "NoSuchElementException if there is none such", ThingsTest::nameThrows);
  }

  private static void nameBytes() {
    String name = "aZ_9bcdefghijklmnopqrsAz";
    for (int i = 0; i < 24; i++) {
      int at = i;
      due.asked("byte " + i, Made.named("x", name), h -> h.name(1, at), name.charAt(i));
    }
    due.asked("of one", Made.named("x", name), h -> h.name(0, 0), 'x');
    due.is("of the last", House.of(Made.things(80)).name(79), "n79");
  }

  private static void nameThrows() {
    for (int i : Made.outside(3)) {
      due.asked("byte " + i, Made.named("abc"), h -> h.name(0, i), House.THROWN);
    }
    for (int i : Made.outside(24)) {
      due.asked("byte " + i + " of 24", Made.named("a".repeat(24)), h -> h.name(0, i), House.THROWN);
    }
    for (int i : Made.outside(1)) {
      due.asked("thing " + i, Made.named("abc"), h -> h.name(i, 0), House.THROWN);
    }
    for (int i : Made.outside(80)) {
      due.is("thing " + i + " of eighty", House.of(Made.things(80)).name(i, 0), House.THROWN);
    }
    House.Calls shorter = Made.named("abc").and(h -> h.rename(0, "z")).and(h -> h.turn());
    due.asked("what a shorter name left", shorter, h -> h.name(0, 1), House.THROWN);
    House.Calls longer = Made.named("z").and(h -> h.rename(0, "abc")).and(h -> h.turn())
        .and(h -> h.back());
    due.asked("what a longer name left", longer, h -> h.name(0, 1), House.THROWN);
    due.asked("a longer one that is only told", Made.named("z").and(h -> h.rename(0, "abc")),
        h -> h.name(0, 1), House.THROWN);
  }

  // ---- 8

  private static void means() {
    due.test("8", "Of a USE what 0 SCOPE", ThingsTest::meansScope);
    due.test("8", "1 the THING that it means", ThingsTest::meansThing);
    due.test("8", "NONE", ThingsTest::meansNone);
  }

  private static final House.Calls TWO_USES = Made.deep(3).and(h -> {
    h.thing(0, 0, "a");
    h.thing(1, 0, "a");
    h.use(2, "a");
    h.use(0, "a");
  });

  private static void meansScope() {
    due.asked("of 0", TWO_USES, h -> h.means(0, 0), 2);
    due.asked("of 1", TWO_USES, h -> h.means(1, 0), 0);
    House.Calls deep = Made.deep(20).and(h -> h.thing(0, 0, "a")).and(h -> h.use(19, "a"));
    due.asked("the innermost", deep, h -> h.means(0, 0), 19);
    due.is("of the last", House.of(Made.uses(150)).means(149, 0), 0);
  }

  private static void meansThing() {
    due.asked("of 0", TWO_USES, h -> h.means(0, 1), 1);
    due.asked("of 1", TWO_USES, h -> h.means(1, 1), 0);
    due.is("of the last", House.of(Made.uses(150)).means(149, 1), 0);
    House.Calls last = Made.things(80).and(h -> h.use(0, "n79"));
    due.is("the last thing", House.of(last).means(0, 1), 79);
    House.Calls turned = TWO_USES.and(h -> h.rename(0, "b")).and(h -> h.rename(1, "c"))
        .and(h -> h.turn());
    due.asked("of 0 behind a turn", turned, h -> h.means(0, 1), 1);
    due.asked("of 1 behind a turn", turned, h -> h.means(1, 1), 0);
  }

  private static void meansNone() {
    for (int i : Made.outside(2)) {
      due.asked("what " + i, TWO_USES, h -> h.means(0, i), -1);
      due.asked("use " + i, TWO_USES, h -> h.means(i, 0), -1);
      due.asked("use " + i, TWO_USES, h -> h.means(i, 1), -1);
    }
    for (int i : Made.outside(150)) {
      due.is("use " + i + " of 150", House.of(Made.uses(150)).means(i, 1), -1);
    }
  }

  // ---- 9

  private static void find() {
    due.test("9", "The THING of a NAME that a USE in a SCOPE would mean", ThingsTest::findThing);
    due.test("9", "-2 if none", ThingsTest::findNothing);
    due.test("9", "NONE: 1", ThingsTest::findNoScope);
    due.test("9", "; 2", ThingsTest::findNoName);
  }

  private static final House.Calls NEST = Made.deep(3).and(h -> {
    h.scope(0);
    h.thing(0, 0, "a");
    h.thing(1, 0, "a");
    h.thing(2, 0, "b");
  });

  private static void finds(String what, House.Calls made, House.Call find, int answer) {
    due.accepted(what, made, find, answer);
    due.same(what + ", and nothing else", made.and(h -> find.on(h)), made);
  }

  private static void findThing() {
    finds("outermost", NEST, h -> h.find(0, "a"), 0);
    finds("nearer", NEST, h -> h.find(1, "a"), 1);
    finds("from within", NEST, h -> h.find(2, "a"), 1);
    finds("from another", NEST, h -> h.find(3, "a"), 0);
    finds("innermost", NEST, h -> h.find(2, "b"), 2);
    finds("the last", Made.things(80), h -> h.find(0, "n79"), 79);
    finds("though there is no room for a use", Made.uses(150), h -> h.find(0, "a"), 0);
  }

  private static void findNothing() {
    finds("from around", NEST, h -> h.find(1, "b"), -2);
    finds("from beside", NEST, h -> h.find(3, "b"), -2);
    finds("another", NEST, h -> h.find(0, "z"), -2);
    finds("in a new house", Made.NEW, h -> h.find(0, "a"), -2);
    finds("great for small", NEST, h -> h.find(0, "A"), -2);
    finds("a byte more", NEST, h -> h.find(0, "aa"), -2);
    finds("a name only told", NEST.and(h -> h.rename(0, "z")), h -> h.find(0, "z"), -2);
    finds("a name that went", NEST.and(h -> h.rename(2, "z")).and(h -> h.turn()), h -> h.find(2, "b"), -2);
  }

  private static void findNoScope() {
    House.Calls fed = NEST.and(Made.tape(40));
    for (int scope : Made.outside(4)) {
      due.refused("scope " + scope, fed, h -> h.find(scope, 1), 1);
    }
    due.refused("ahead of a wrong n", fed, h -> h.find(4, -1), 1);
    due.refused("ahead of no name", fed, h -> h.find(4, 30), 1);
  }

  private static void findNoName() {
    House.Calls fed = NEST.and(Made.tape(20));
    int[] wrong = {-1, -2, Made.LEAST, 21, 200, 201, Made.GREATEST};
    for (int n : wrong) {
      due.refused("by " + n, fed, h -> h.find(0, n), 2);
    }
    String[] none = {"", "_", "1", "1a", "_1", "a b", "a-", "\u00e9a", "a".repeat(25), "a".repeat(200)};
    for (String text : none) {
      due.refused("'" + text + "'", NEST, h -> h.find(0, text), 2);
    }
  }
}
