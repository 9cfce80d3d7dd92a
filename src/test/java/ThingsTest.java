import java.util.HashMap;
import java.util.Map;

/** Promises 1 to 9: a new object, the tape, scopes, things and uses. */
public final class ThingsTest {
  private static final int LOW = Integer.MIN_VALUE;
  private static final int HIGH = Integer.MAX_VALUE;
  private static final Due due = new Due("ThingsTest");

  public static void main(String[] args) {
    newObject();
    feed();
    tapeTaken();
    scope();
    thing();
    thingNames();
    thingCatchesUse();
    thingRoom();
    use();
    useRoom();
    about();
    partsAndStyles();
    name();
    means();
    find();
    due.end();
  }

  private static void newObject() {
    NameHouse x = new NameHouse();
    int[] counts = {1, 0, 0, 0, 0, 0, 0};
    for (int what = 0; what < counts.length; what++) {
      due.is("1: count(" + what + ")", x.count(what), counts[what]);
    }
    due.is("1: trouble", x.trouble(), 0);
    due.is("1: NONE", NameHouse.NONE, -1);
    due.is("1: no thing", x.about(0, 0), -1);
    due.is("1: no use", x.means(0, 0), -1);
    due.is("1: no word", x.told(0, 0), -1);
    due.is("1: out is empty", Due.outThrows(x, 0), true);
    due.is("1: one scope within the outermost", x.scope(0), 1);
  }

  private static void feed() {
    NameHouse x = new NameHouse();
    for (int i = 1; i <= 10; i++) {
      due.is("2: feed " + i, x.feed(0, 0, 0, 0, 0), 20 * i);
    }
    due.is("2: feed 11", x.feed(1, 2, 3, 4, 5), -1);
    due.is("2: no byte came", x.count(6), 200);
    due.is("2: trouble is no matter of feed", x.trouble(), 0);
    NameHouse y = new NameHouse();
    y.feed(0x61626364, 0x65666768, 0x696a6b6c, 0x6d6e6f70, 0x71727374);
    y.feed(0x75767778, 0, 0, 0, 0);
    due.is("2: thing of 24 bytes", y.thing(0, 0, 24), 0);
    due.is("2: the highest byte comes first", Due.name(y, 0), "abcdefghijklmnopqrstuvwx");
    NameHouse z = new NameHouse();
    z.scope(7);
    z.feed(0, 0, 0, 0, 0);
    due.is("2: feed leaves the trouble of a refused call", z.trouble(), 1);
  }

  /** Which calls empty the tape, and which leave it. */
  private static void tapeTaken() {
    NameHouse x = new NameHouse();
    Due.feed(x, "ab");
    due.refused("4: no such scope", x, x.thing(1, 0, 2), 1);
    due.refused("4: kind 3", x, x.thing(0, 3, 2), 2);
    due.refused("4: kind -1", x, x.thing(0, -1, 2), 2);
    due.refused("4: n above the tape", x, x.thing(0, 0, 21), 2);
    due.refused("4: n below 0", x, x.thing(0, 0, -1), 2);
    due.refused("4: n least", x, x.thing(0, 0, LOW), 2);
    due.refused("4: n greatest", x, x.thing(0, 0, HIGH), 2);
    due.refused("5: no such scope", x, x.use(-1, 2), 1);
    due.refused("5: n above the tape", x, x.use(0, 21), 2);
    due.refused("9: no such scope", x, x.find(1, 2), 1);
    due.refused("9: n below 0", x, x.find(0, -1), 2);
    due.refused("10: roles", x, x.word(16, 2), 2);
    due.refused("10: n above the tape", x, x.word(0, 21), 2);
    due.refused("22: no such thing", x, x.rename(0, 2), 1);
    due.is("tape left by these", x.count(6), 20);
    due.accepted("4: by the bytes that were left", x, x.thing(0, 0, 2), 0);
    due.is("tape empty behind it", x.count(6), 0);
    Due.feed(x, "abcdefghijklmnopqrstuvwxyzabcd");
    due.refused("4: 25 bytes", x, x.thing(0, 0, 25), 2);
    due.is("tape empty though no name", x.count(6), 0);
    Due.feed(x, "ab");
    due.refused("4: no bytes are no name", x, x.thing(0, 0, 0), 2);
    due.is("tape empty behind none of its bytes", x.count(6), 0);
    due.refused("4: there already", x, Due.thing(x, 0, 0, "ab"), 4);
    due.is("tape empty behind trouble 4", x.count(6), 0);
    due.refused("5: means none", x, Due.use(x, 0, "abc"), 6);
    due.is("tape empty behind trouble 6", x.count(6), 0);
    due.refused("10: no word", x, Due.word(x, 1, "aB"), 2);
    due.is("tape empty though no word", x.count(6), 0);
    Due.feed(x, "ab");
    due.refused("22: n above the tape", x, x.rename(0, 21), 2);
    due.is("tape left by rename's n", x.count(6), 20);
    due.refused("22: no name", x, x.rename(0, 20), 2);
    due.is("tape empty behind rename", x.count(6), 0);
    due.refused("22: n above an empty tape", x, x.rename(0, 1), 2);
  }

  private static void scope() {
    NameHouse x = new NameHouse();
    due.refused("3: none around", x, x.scope(1), 1);
    due.refused("3: below 0", x, x.scope(-1), 1);
    due.refused("3: least", x, x.scope(LOW), 1);
    for (int i = 1; i < 20; i++) {
      due.accepted("3: scope " + i, x, x.scope(i - 1), i);
    }
    due.refused("3: no room", x, x.scope(0), 3);
    due.refused("3: no such comes ahead of no room", x, x.scope(20), 1);
    due.is("3: twenty of them", x.count(0), 20);
    due.accepted("3: the innermost", x, Due.thing(x, 19, 2, "deep"), 0);
    due.accepted("3: seen within", x, Due.find(x, 19, "deep"), 0);
    due.accepted("3: unseen around", x, Due.find(x, 18, "deep"), -2);
  }

  private static void thing() {
    NameHouse x = new NameHouse();
    due.accepted("4: first", x, Due.thing(x, 0, 0, "first"), 0);
    due.accepted("4: second", x, Due.thing(x, 0, 1, "First"), 1);
    due.accepted("4: third", x, Due.thing(x, 0, 2, "FIRST"), 2);
    due.refused("4: the name is there", x, Due.thing(x, 0, 1, "first"), 4);
    x.scope(0);
    due.accepted("4: the name in another scope", x, Due.thing(x, 1, 0, "first"), 3);
    due.is("4: they are counted", x.count(1), 4);
    Due.feed(x, "first");
    due.refused("4: 1 comes ahead of 2", x, x.thing(2, 9, 99), 1);
    due.is("4: and leaves the tape", x.count(6), 20);
    due.refused("4: kind greatest", x, x.thing(0, HIGH, 5), 2);
    due.refused("4: kind least", x, x.thing(0, LOW, 5), 2);
  }

  private static void thingNames() {
    String[] good = {"a", "Z", "_a", "a_", "__a__", "_1a", "a1", "x9_", "abcdefghijklmnopqrstuvwx",
        "_0000000000000000000000a", "zAZ09_"};
    String[] bad = {"_", "__", "1a", "9", "_1", "a b", "a-b", "a@", "a[", "`a", "a{", "a/", "a:",
        "a\u00e9", "\u0000", "a\u0000", "abcdefghijklmnopqrstuvwxy",
        "_00000000000000000000000", " a"};
    NameHouse x = new NameHouse();
    int number = 0;
    for (String text : good) {
      due.accepted("4: '" + text + "'", x, Due.thing(x, 0, 0, text), number);
      due.is("4: its bytes", Due.name(x, number), text);
      number++;
    }
    for (String text : bad) {
      due.refused("4: '" + text + "'", x, Due.thing(x, 0, 0, text), 2);
    }
  }

  private static void thingCatchesUse() {
    NameHouse x = new NameHouse();
    x.scope(0);
    x.scope(1);
    x.scope(1);
    x.scope(0);
    due.is("4: outer", Due.thing(x, 0, 0, "v"), 0);
    due.is("5: use deep in", Due.use(x, 2, "v"), 0);
    due.refused("4: between", x, Due.thing(x, 1, 0, "v"), 4);
    due.refused("4: at the use", x, Due.thing(x, 2, 0, "v"), 4);
    due.accepted("4: beside it", x, Due.thing(x, 3, 0, "v"), 1);
    due.accepted("4: in a scope apart", x, Due.thing(x, 4, 0, "v"), 2);
    due.accepted("5: of the one beside", x, Due.use(x, 3, "v"), 1);
    due.is("8: means the nearest", x.means(1, 1), 1);
    due.refused("4: around both", x, Due.thing(x, 1, 0, "v"), 4);
    due.is("4: inner", Due.thing(x, 2, 0, "w"), 3);
    due.is("5: use of inner", Due.use(x, 2, "w"), 2);
    due.accepted("4: around the inner one", x, Due.thing(x, 0, 0, "w"), 4);
    due.is("8: it means the inner one still", x.means(2, 1), 3);
    due.is("22: rename", Due.rename(x, 0, "z"), 1);
    due.accepted("26: turn", x, x.turn(), 1);
    due.refused("4: a use has the new name of its thing", x, Due.thing(x, 1, 0, "z"), 4);
    due.accepted("4: and not the old one", x, Due.thing(x, 1, 0, "v"), 5);
  }

  private static void thingRoom() {
    NameHouse x = new NameHouse();
    for (int i = 0; i < 80; i++) {
      due.is("4: thing " + i, Due.thing(x, 0, i % 3, "n" + i), i);
    }
    due.refused("4: no room", x, Due.thing(x, 0, 0, "n80"), 3);
    due.is("4: tape empty behind no room", x.count(6), 0);
    due.refused("4: 4 comes ahead of 3", x, Due.thing(x, 0, 0, "n79"), 4);
    due.refused("4: 2 comes ahead of 3", x, Due.thing(x, 0, 0, "8"), 2);
    due.refused("4: 1 comes ahead of 3", x, Due.thing(x, 1, 0, "n80"), 1);
    due.is("4: eighty of them", x.count(1), 80);
    due.is("7: the last one's name", Due.name(x, 79), "n79");
    due.is("6: there is no more", x.about(80, 0), -1);
  }

  private static void use() {
    NameHouse x = new NameHouse();
    x.scope(0);
    Due.thing(x, 0, 0, "a");
    Due.thing(x, 1, 0, "b");
    due.accepted("5: in its scope", x, Due.use(x, 0, "a"), 0);
    due.accepted("5: from within", x, Due.use(x, 1, "a"), 1);
    due.refused("5: from around", x, Due.use(x, 0, "b"), 6);
    due.refused("5: no such scope", x, Due.use(x, 2, "a"), 1);
    due.refused("5: no bytes are no name", x, x.use(0, 0), 2);
    due.refused("5: no name", x, Due.use(x, 0, "1a"), 2);
    due.refused("5: great letters differ", x, Due.use(x, 0, "A"), 6);
    due.is("5: they are counted", x.count(2), 2);
  }

  private static void useRoom() {
    NameHouse x = new NameHouse();
    Due.thing(x, 0, 0, "a");
    for (int i = 0; i < 150; i++) {
      due.is("5: use " + i, Due.use(x, 0, "a"), i);
    }
    due.refused("5: no room", x, Due.use(x, 0, "a"), 3);
    due.is("5: tape empty behind no room", x.count(6), 0);
    due.refused("5: 6 comes ahead of 3", x, Due.use(x, 0, "b"), 6);
    due.refused("5: 2 comes ahead of 6", x, Due.use(x, 0, "-"), 2);
    due.is("5: hundred and fifty", x.count(2), 150);
    due.is("6: all mean it", x.about(0, 6), 150);
    due.is("8: the last one", x.means(149, 1), 0);
    due.is("8: no more", x.means(150, 1), -1);
  }

  private static void about() {
    NameHouse x = new NameHouse();
    x.scope(0);
    Due.thing(x, 0, 2, "a");
    Due.thing(x, 1, 1, "getSizeOf2_b");
    Due.word(x, 1, "get");
    Due.word(x, 6, "size");
    Due.word(x, 8, "of");
    Due.word(x, 0, "b");
    Due.use(x, 1, "a");
    Due.use(x, 0, "a");
    long[] first = {0, 2, 1, 1, 0, 0, 2, -1};
    long[] second = {1, 1, 12, 5, 0, 0x1280, 0, -1};
    for (int what = 0; what < 8; what++) {
      due.is("6: about(0, " + what + ")", x.about(0, what), first[what]);
      due.is("6: about(1, " + what + ")", x.about(1, what), second[what]);
    }
    due.is("6: what -1", x.about(0, -1), -1);
    due.is("6: what least", x.about(0, LOW), -1);
    due.is("6: thing -1", x.about(-1, 0), -1);
    due.is("6: thing 2", x.about(2, 0), -1);
    due.is("6: thing greatest", x.about(HIGH, 0), -1);
    x.scope(9);
    x.about(9, 9);
    due.is("6: about leaves trouble", x.trouble(), 1);
  }

  private static void partsAndStyles() {
    checkParts("HTMLPage2_x", 1, "html", "page", "", "x");
    checkParts("HTML", 1, "html");
    checkParts("getURLs", 0, "get", "ur", "ls");
    checkParts("aB", 0, "a", "b");
    checkParts("AB", 1, "ab");
    checkParts("ABc", 1, "a", "bc");
    checkParts("ABcDE", 1, "a", "bc", "de");
    checkParts("ABCdEFGh", 1, "ab", "cd", "ef", "gh");
    checkParts("a1B", 0, "a", "", "b");
    checkParts("A1b2", 1, "a", "", "b", "");
    checkParts("AB12CD", 1, "ab", "", "cd");
    checkParts("_a__b_", 2, "a", "b");
    checkParts("_A__B_", 3, "a", "b");
    checkParts("A_B", 3, "a", "b");
    checkParts("AB_c", 1, "ab", "c");
    checkParts("a_B", 0, "a", "b");
    checkParts("_aB", 0, "a", "b");
    checkParts("_1Ab", 1, "", "ab");
    checkParts("_1aB", 0, "", "a", "b");
    checkParts("_Ab", 1, "ab");
    checkParts("A_1", 3, "a", "");
    checkParts("a_1", 2, "a", "");
    checkParts("abc", 0, "abc");
    checkParts("Abc", 1, "abc");
    checkParts("XAbY", 1, "x", "ab", "y");
    NameHouse x = new NameHouse();
    due.is("II: a part at every byte", Due.thing(x, 0, 0, "a1b2c3d4e5f6g7h8i9j0k1l2"), 0);
    due.is("II: twenty-four parts", x.about(0, 3), 24);
  }

  /** A part of digits stands here as an empty text: no word is written so. */
  private static void checkParts(String name, int style, String... parts) {
    NameHouse x = new NameHouse();
    Due.thing(x, 0, 0, name);
    due.is("II: parts of " + name, x.about(0, 3), parts.length);
    due.is("II: style of " + name, x.about(0, 4), style);
    Map<String, Integer> words = new HashMap<>();
    words.put("", -2);
    for (String part : parts) {
      if (!words.containsKey(part)) {
        words.put(part, Due.word(x, 0, part));
      }
    }
    for (int i = 0; i < parts.length; i++) {
      due.is("II: part " + i + " of " + name, x.part(0, i), words.get(parts[i]));
    }
  }

  private static void name() {
    NameHouse x = new NameHouse();
    Due.thing(x, 0, 0, "aZ_9");
    due.is("7: byte 0", x.name(0, 0), 'a');
    due.is("7: byte 1", x.name(0, 1), 'Z');
    due.is("7: byte 2", x.name(0, 2), '_');
    due.is("7: byte 3", x.name(0, 3), '9');
    int[] wrong = {-1, 4, 23, 24, 80, HIGH, LOW};
    for (int i : wrong) {
      due.is("7: byte " + i, Due.nameThrows(x, 0, i), true);
      due.is("7: thing " + i, Due.nameThrows(x, i, 0), true);
    }
    due.is("7: thing 1", Due.nameThrows(x, 1, 0), true);
    due.is("7: leaves trouble", x.trouble(), 0);
  }

  private static void means() {
    NameHouse x = new NameHouse();
    x.scope(0);
    Due.thing(x, 0, 0, "a");
    Due.thing(x, 1, 0, "a");
    due.is("8: use 0", Due.use(x, 1, "a"), 0);
    due.is("8: use 1", Due.use(x, 0, "a"), 1);
    due.is("8: scope", x.means(0, 0), 1);
    due.is("8: thing", x.means(0, 1), 1);
    due.is("8: scope of the other", x.means(1, 0), 0);
    due.is("8: thing of the other", x.means(1, 1), 0);
    int[] wrong = {-1, 2, 150, HIGH, LOW};
    for (int i : wrong) {
      due.is("8: use " + i, x.means(i, 0), -1);
      due.is("8: what " + i, x.means(0, i), -1);
    }
    due.is("6: one means thing 0", x.about(0, 6), 1);
    due.is("6: one means thing 1", x.about(1, 6), 1);
  }

  private static void find() {
    NameHouse x = new NameHouse();
    x.scope(0);
    x.scope(1);
    x.scope(0);
    Due.thing(x, 0, 0, "a");
    Due.thing(x, 1, 0, "a");
    Due.thing(x, 2, 0, "b");
    due.accepted("9: outermost", x, Due.find(x, 0, "a"), 0);
    due.accepted("9: in its scope", x, Due.find(x, 1, "a"), 1);
    due.accepted("9: from within", x, Due.find(x, 2, "a"), 1);
    due.accepted("9: from another scope", x, Due.find(x, 3, "a"), 0);
    due.accepted("9: none", x, Due.find(x, 1, "b"), -2);
    due.is("9: tape empty", x.count(6), 0);
    due.refused("9: no name", x, Due.find(x, 0, "_"), 2);
    due.is("9: tape empty though no name", x.count(6), 0);
    due.refused("9: no scope", x, Due.find(x, 4, "a"), 1);
    due.is("9: tape left", x.count(6), 20);
    due.is("9: no use comes of it", x.count(2), 0);
  }
}
