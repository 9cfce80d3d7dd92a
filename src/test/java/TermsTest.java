/** The Terms I to V, the sentence on the 512 calls, the constants and the lines on the tape. */
public final class TermsTest {
  private static final Due due =
      new Due("TermsTest", "use", "I", "II", "III", "IV", "V", "constants", "tape");

  public static void main(String[] args) {
    due.test("use", "An object is used for at most 512 calls after it has been made; what later calls"
        + " answer is free.", TermsTest::theLastCallAnswers);
    bounds();
    tape();
    PartsTests.all(due);
    BookTermsTests.all(due);
    MeaningTests.all(due);
    troubles();
    due.test("constants", "The constants: `NONE = -1`: There is none; refused.", TermsTest::none);
    due.end();
  }

  private static void theLastCallAnswers() {
    House h = House.of(Made.named("ab"));
    while (h.callsLeft() > 1) {
      h.scope(0);
    }
    due.is("call 512 asks", h.name(0, 1), 'b');
    House g = House.of(Made.named("ab"));
    while (g.callsLeft() > 1) {
      g.hinders();
    }
    due.is("call 512 changes", g.scope(0), 1);
  }

  private static void none() {
    due.is("NONE", NameHouse.NONE, -1);
    due.is("there is none", new NameHouse().about(0, 0), NameHouse.NONE);
    due.is("refused", new NameHouse().scope(1), NameHouse.NONE);
  }

  // ---- I

  private static void bounds() {
    due.test("I", "BOUNDS. SCOPES 20", TermsTest::scopes);
    due.test("I", "(0 the outermost, told at the beginning)", TermsTest::outermost);
    due.test("I", "THINGS 80", TermsTest::things);
    due.test("I", "USES 150", TermsTest::uses);
    due.test("I", "the BOOK 60 WORDS", TermsTest::words);
    due.test("I", "A NAME: 1 to 24 bytes", TermsTest::nameBytes);
    due.test("I", "letters, digits and _", TermsTest::nameSigns);
    due.test("I", "some letter", TermsTest::nameLetter);
    due.test("I", "no digit first", TermsTest::nameFirst);
    due.test("I", "THE TAPE has 200 bytes", TermsTest::tapeBytes);
  }

  private static void scopes() {
    House deep = new House();
    House flat = new House();
    for (int s = 1; s < 20; s++) {
      due.is("one within the one ahead", deep.scope(s - 1), s);
      due.is("one beside the one ahead", flat.scope(0), s);
    }
    due.is("all", deep.count(0), 20);
    due.refused("one more around the innermost", Made.deep(20), h -> h.scope(19), 3);
    due.refused("one more in the outermost", Made.deep(20), h -> h.scope(0), 3);
    due.accepted("the twentieth", Made.deep(19), h -> h.scope(18), 19);
  }

  private static void outermost() {
    House h = new House();
    due.is("it is there", h.count(0), 1);
    due.is("a thing in it", h.thing(0, 0, "a"), 0);
    due.is("a scope within it", h.scope(0), 1);
    due.is("its thing is seen from there", h.find(1, "a"), 0);
    due.is("another within that", h.scope(1), 2);
    due.is("and from there", h.find(2, "a"), 0);
  }

  private static void things() {
    House h = new House();
    for (int t = 0; t < 80; t++) {
      due.is("thing", h.thing(0, t % 3, "n" + t), t);
    }
    due.is("all", h.count(1), 80);
    due.refused("the next", Made.things(80), c -> c.thing(0, 0, "n80"), 3);
    due.refused("the next, in another scope", Made.things(80).and(c -> c.scope(0)),
        c -> c.thing(1, 0, "n0"), 3);
    due.accepted("the eightieth", Made.things(79), c -> c.thing(0, 0, "n79"), 79);
  }

  private static void uses() {
    House h = House.of(Made.uses(0));
    for (int u = 0; u < 150; u++) {
      due.is("use", h.use(0, "a"), u);
    }
    due.is("all", h.count(2), 150);
    due.refused("the next", Made.uses(150), c -> c.use(0, "a"), 3);
    due.accepted("the last", Made.uses(149), c -> c.use(0, "a"), 149);
  }

  private static void words() {
    House h = new House();
    for (int w = 0; w < 60; w++) {
      due.is("word", h.word(w % 16, Made.word(w)), w);
    }
    due.is("all", h.count(3), 60);
    due.refused("the next", Made.words(60), c -> c.word(0, "more"), 3);
    due.accepted("the sixtieth", Made.words(59), c -> c.word(0, "more"), 59);
  }

  /** Each call that takes a NAME takes this one. */
  private static void isName(String text) {
    due.accepted("thing '" + text + "'", Made.NEW, h -> h.thing(0, 0, text), 0);
    House h = House.of(Made.named(text));
    due.is("its bytes", h.name(0), text);
    due.accepted("use '" + text + "'", Made.named(text), c -> c.use(0, text), 0);
    due.accepted("find '" + text + "'", Made.named(text), c -> c.find(0, text), 0);
    House.Calls renamed = Made.named("other").and(c -> c.rename(0, text));
    due.accepted("rename '" + text + "'", Made.named("other"), c -> c.rename(0, text), 1);
    due.accepted("turn to '" + text + "'", renamed, c -> c.turn(), 1);
    due.is("its new bytes", House.of(renamed.and(c -> c.turn())).name(0), text);
  }

  private static void isNoName(String text) {
    House.Calls made = Made.named("other");
    due.refused("thing '" + text + "'", made, h -> h.thing(0, 0, text), 2);
    due.refused("use '" + text + "'", made, h -> h.use(0, text), 2);
    due.refused("find '" + text + "'", made, h -> h.find(0, text), 2);
    due.refused("rename '" + text + "'", made, h -> h.rename(0, text), 2);
  }

  private static void nameBytes() {
    isNoName("");
    isName("a");
    isName("ab");
    isName("a".repeat(23));
    isName("a".repeat(24));
    isName("abcdefghijklmnopqrstuvwx");
    isNoName("a".repeat(25));
    House h = House.of(Made.named("a".repeat(25), "a"));
    due.is("the next one behind a longer one", h.name(0), "a");
    isNoName("a".repeat(26));
    isNoName("a".repeat(48));
    isNoName("a".repeat(200));
  }

  private static boolean isLetterOrLine(int sign) {
    return sign >= 'a' && sign <= 'z' || sign >= 'A' && sign <= 'Z' || sign == '_';
  }

  private static void nameSigns() {
    for (int sign = 0; sign < 256; sign++) {
      String behind = "a" + (char) sign;
      String ahead = (char) sign + "a";
      String last = "a".repeat(23) + (char) sign;
      boolean digit = sign >= '0' && sign <= '9';
      if (isLetterOrLine(sign) || digit) {
        isName(behind);
        isName(last);
      } else {
        isNoName(behind);
        isNoName(last);
        isNoName(ahead);
      }
      if (isLetterOrLine(sign)) {
        isName(ahead);
      }
    }
  }

  private static void nameLetter() {
    String[] none = {"_", "__", "_0", "_9_", "_1_2", "_".repeat(24), "_" + "0".repeat(23)};
    for (String text : none) {
      isNoName(text);
    }
    for (char letter = 'a'; letter <= 'z'; letter++) {
      isName("" + letter);
      isName("" + Character.toUpperCase(letter));
    }
    String[] some = {"_a", "a_", "_1a", "_1A", "_a_", "_".repeat(23) + "z", "_" + "0".repeat(22) + "Z"};
    for (String text : some) {
      isName(text);
    }
  }

  private static void nameFirst() {
    for (char digit = '0'; digit <= '9'; digit++) {
      isNoName("" + digit);
      isNoName(digit + "a");
      isNoName(digit + "_a");
      isName("a" + digit);
      isName("_" + digit + "a");
    }
  }

  private static void tapeBytes() {
    House h = new House();
    for (int bytes = 20; bytes <= 200; bytes += 20) {
      due.is("feed", h.feed("abc"), bytes);
    }
    due.is("one more", h.feed("abc"), -1);
    due.is("bytes", h.count(6), 200);
    due.refused("n of 201", Made.tape(200), c -> c.find(0, 201), 2);
    due.is("all of it is taken", House.of(Made.tape(200).and(c -> c.find(0, 200))).count(6), 0);
    due.is("and it is filled anew", House.of(
        Made.tape(200).and(c -> c.find(0, 200)).and(Made.tape(200))).count(6), 200);
  }

  // ---- the lines on the tape

  private static void tape() {
    due.test("tape", "n: the first n bytes of THE TAPE", TermsTest::firstBytes);
    due.test("tape", "which is empty then", TermsTest::emptyThen);
    due.test("tape", "1, and", TermsTest::oneLeavesIt);
    due.test("tape", "2 by n", TermsTest::wrongBytesLeaveIt);
    due.test("tape", "or a number, leave it", TermsTest::wrongNumbersLeaveIt);
  }

  private static void firstBytes() {
    for (int bytes = 1; bytes <= 24; bytes++) {
      int n = bytes;
      String first = "abcdefghijklmnopqrstabcdefghijklmnopqrst".substring(0, n);
      due.is("thing", House.of(Made.tape(40).and(h -> h.thing(0, 0, n))).name(0), first);
      due.is("rename", House.of(Made.named("z").and(Made.tape(40)).and(h -> h.rename(0, n))
          .and(h -> h.turn())).name(0), first);
      due.is("find", House.of(Made.named("z", first).and(Made.tape(40))).find(0, n), 1);
      due.is("use", House.of(Made.named("z", first).and(Made.tape(200))).use(0, n), 0);
    }
    for (int bytes = 1; bytes <= 12; bytes++) {
      House h = House.of(Made.tape(40));
      due.is("word", h.word(0, bytes), 0);
      due.is("a part that it is", h.thing(0, 0, "abcdefghijkl".substring(0, bytes)), 0);
      due.is("its word", h.part(0, 0), 0);
    }
  }

  /** The call feeds twenty bytes and takes fewer of them: those behind go too. */
  private static void isEmptied(String what, House.Calls made, House.Call call, int trouble) {
    House h = House.of(made);
    call.on(h);
    due.is(what + ", its trouble", h.trouble(), trouble);
    due.is(what + ", bytes", h.count(6), 0);
    due.is(what + ", fed again", h.feed("zzz"), 20);
  }

  private static void emptyThen() {
    House.Calls ab = Made.named("ab").and(h -> h.word(0, "ab"));
    isEmptied("thing", ab, h -> h.thing(0, 0, "cd"), 0);
    isEmptied("use", ab, h -> h.use(0, "ab"), 0);
    isEmptied("find", ab, h -> h.find(0, "ab"), 0);
    isEmptied("find of none", ab, h -> h.find(0, "cd"), 0);
    isEmptied("word", ab, h -> h.word(0, "cd"), 0);
    isEmptied("rename", ab, h -> h.rename(0, "cd"), 0);
    isEmptied("thing by no name", ab, h -> h.thing(0, 0, "1"), 2);
    isEmptied("use of no name", ab, h -> h.use(0, "1"), 2);
    isEmptied("find of no name", ab, h -> h.find(0, "1"), 2);
    isEmptied("word that is none", ab, h -> h.word(0, "1"), 2);
    isEmptied("rename to no name", ab, h -> h.rename(0, "1"), 2);
    isEmptied("thing there", ab, h -> h.thing(0, 0, "ab"), 4);
    isEmptied("word there", ab, h -> h.word(0, "ab"), 4);
    isEmptied("use that means none", ab, h -> h.use(0, "cd"), 6);
    isEmptied("no room for a thing", Made.things(80), h -> h.thing(0, 0, "cd"), 3);
    isEmptied("no room for a use", Made.uses(150), h -> h.use(0, "a"), 3);
    isEmptied("no room for a word", Made.words(60), h -> h.word(0, "cd"), 3);
    isEmptied("thing by no byte", ab, h -> h.thing(0, 0, ""), 2);
    isEmptied("use of no byte", ab, h -> h.use(0, ""), 2);
    isEmptied("find of no byte", ab, h -> h.find(0, ""), 2);
    isEmptied("word of no byte", ab, h -> h.word(0, ""), 2);
    isEmptied("rename to no byte", ab, h -> h.rename(0, ""), 2);
  }

  private static void oneLeavesIt() {
    House.Calls fed = Made.named("ab").and(Made.tape(40));
    due.refused("thing", fed, h -> h.thing(1, 0, 3), 1);
    due.refused("use", fed, h -> h.use(1, 3), 1);
    due.refused("find", fed, h -> h.find(1, 3), 1);
    due.refused("rename", fed, h -> h.rename(1, 3), 1);
    due.refused("thing, whatever n is", fed, h -> h.thing(-1, 0, 0), 1);
    due.refused("use, whatever n is", fed, h -> h.use(-1, 41), 1);
    due.refused("find, whatever n is", fed, h -> h.find(-1, -1), 1);
    due.refused("rename, whatever n is", fed, h -> h.rename(-1, 0), 1);
  }

  private static void wrongBytesLeaveIt() {
    for (int bytes = 0; bytes <= 200; bytes += 20) {
      House.Calls fed = Made.named("ab").and(Made.tape(bytes));
      int[] wrong = {-1, Made.LEAST, bytes + 1, 201, Made.GREATEST};
      for (int n : wrong) {
        due.refused("thing by " + n, fed, h -> h.thing(0, 0, n), 2);
        due.refused("use by " + n, fed, h -> h.use(0, n), 2);
        due.refused("find by " + n, fed, h -> h.find(0, n), 2);
        due.refused("word by " + n, fed, h -> h.word(0, n), 2);
        due.refused("rename by " + n, fed, h -> h.rename(0, n), 2);
      }
    }
  }

  private static void wrongNumbersLeaveIt() {
    House.Calls fed = Made.named("ab").and(Made.tape(40));
    for (int kind : Made.outside(3)) {
      due.refused("thing of kind " + kind, fed, h -> h.thing(0, kind, 3), 2);
      due.refused("thing of kind " + kind + " by no bytes", fed, h -> h.thing(0, kind, 0), 2);
    }
    for (int roles : Made.outside(16)) {
      due.refused("word of roles " + roles, fed, h -> h.word(roles, 3), 2);
      due.refused("word of roles " + roles + " by no bytes", fed, h -> h.word(roles, 0), 2);
    }
  }

  // ---- V

  private static void troubles() {
    due.test("V", "TROUBLE of the latest call that may be refused", TermsTest::latest);
    due.test("V", "0 it wasn't", TermsTest::fine);
    due.test("V", "1 there is none such", TermsTest::noneSuch);
    due.test("V", "2 no NAME, no WORD, a number", TermsTest::noName);
    due.test("V", "3 no room", TermsTest::noRoom);
    due.test("V", "4 it is there already", TermsTest::thereAlready);
    due.test("V", "5 it isn't SAFE", TermsTest::notSafe);
    due.test("V", "6 it means none, or there is none to take back", TermsTest::meansNone);
  }

  private static void latest() {
    House h = new House();
    h.back();
    due.is("of back", h.trouble(), 6);
    due.is("asking leaves it", h.trouble(), 6);
    h.scope(1);
    due.is("of scope behind it", h.trouble(), 1);
    h.word(16, 0);
    due.is("of word behind it", h.trouble(), 2);
    h.scope(0);
    due.is("of one that wasn't refused", h.trouble(), 0);
  }

  private static void fine() {
    due.is("ahead of all calls", new House().trouble(), 0);
    House.Calls made = Made.named("a").and(Made.book("x", "y"));
    due.accepted("scope", made, h -> h.scope(0), 1);
    due.accepted("thing", made, h -> h.thing(0, 0, "b"), 1);
    due.accepted("use", made, h -> h.use(0, "a"), 0);
    due.accepted("find", made, h -> h.find(0, "a"), 0);
    due.accepted("find of none", made, h -> h.find(0, "b"), -2);
    due.accepted("word", made, h -> h.word(0, "z"), 2);
    due.accepted("shorts", made, h -> h.shorts(0, 1), 1);
    due.accepted("alike", made, h -> h.alike(0, 1), 1);
    due.accepted("offer that there isn't", made, h -> h.offer(0), -2);
    due.accepted("offer", made.and(h -> h.thing(0, 0, "_b")), h -> h.offer(1), 1);
    due.accepted("rename", made, h -> h.rename(0, "b"), 1);
    due.accepted("turn", made, h -> h.turn(), 0);
    due.accepted("back", made.and(h -> h.turn()), h -> h.back(), 0);
  }

  private static void noneSuch() {
    House.Calls made = Made.named("a").and(Made.book("x", "y")).and(Made.tape(20));
    due.refused("scope", made, h -> h.scope(1), 1);
    due.refused("thing", made, h -> h.thing(1, 0, 1), 1);
    due.refused("use", made, h -> h.use(1, 1), 1);
    due.refused("find", made, h -> h.find(1, 1), 1);
    due.refusedBy("shorts", 0, made, h -> h.shorts(2, 0), 1);
    due.refusedBy("alike", 0, made, h -> h.alike(0, 2), 1);
    due.refused("offer", made, h -> h.offer(1), 1);
    due.refused("rename", made, h -> h.rename(1, 1), 1);
  }

  private static void noName() {
    House.Calls made = Made.named("a").and(Made.book("x"));
    due.refused("no NAME of a thing", made, h -> h.thing(0, 0, "-"), 2);
    due.refused("no NAME of a use", made, h -> h.use(0, "-"), 2);
    due.refused("no NAME to find", made, h -> h.find(0, "-"), 2);
    due.refused("no NAME to rename to", made, h -> h.rename(0, "-"), 2);
    due.refused("no WORD, though a NAME", made, h -> h.word(0, "Xy"), 2);
    due.refused("a number: KIND", made, h -> h.thing(0, 3, 0), 2);
    due.refused("a number: ROLES", made, h -> h.word(16, 0), 2);
    due.refused("a number: n", made, h -> h.find(0, 1), 2);
  }

  private static void noRoom() {
    due.refused("scope", Made.deep(20), h -> h.scope(0), 3);
    due.refused("thing", Made.things(80), h -> h.thing(0, 0, "a"), 3);
    due.refused("use", Made.uses(150), h -> h.use(0, "a"), 3);
    due.refused("word", Made.words(60), h -> h.word(0, "a"), 3);
  }

  private static void thereAlready() {
    due.refused("thing", Made.named("a"), h -> h.thing(0, 0, "a"), 4);
    due.refused("word", Made.book("a"), h -> h.word(0, "a"), 4);
    due.refused("thing that a use would mean", h -> {
      h.scope(0);
      h.thing(0, 0, "a");
      h.use(1, "a");
    }, h -> h.thing(1, 0, "a"), 4);
  }

  private static void notSafe() {
    due.refused("turn", Made.named("a", "b").and(h -> h.rename(0, "b")), h -> h.turn(), 5);
  }

  private static void meansNone() {
    due.refused("use", Made.named("a"), h -> h.use(0, "b"), 6);
    due.refused("back ahead of a turn", Made.named("a"), h -> h.back(), 6);
    due.refused("back behind a back", Made.named("a").and(h -> h.turn()).and(h -> h.back()),
        h -> h.back(), 6);
  }
}
