import java.util.HashMap;
import java.util.Map;

/** Term II: PARTS, STYLE, WRITTEN. */
final class PartsTests {
  private static Due due;

  private PartsTests() {
  }

  static void all(Due told) {
    due = told;
    due.test("II", "PARTS of a NAME: cut at each _ (none is left of it)", PartsTests::atLines);
    due.test("II", "between a small letter and a great one behind it", PartsTests::smallAndGreat);
    due.test("II", "ahead of the last of a row of great letters that has a small one behind it",
        PartsTests::rowsOfGreat);
    due.test("II", "and between a letter and a digit, either way", PartsTests::lettersAndDigits);
    due.test("II", "letters made small", PartsTests::madeSmall);
    due.test("II", "(HTMLPage2_x: html, page, 2, x.)", () -> parts("HTMLPage2_x", "html", "page", "2", "x"));
    due.test("II", "STYLE: 2 if there is a _ and no great letter",
        () -> styles(2, "_a", "_z", "a_", "a_b", "a_1", "__a", "_1a", "a1_", "_".repeat(23) + "a"));
    due.test("II", "3 if there is a _ and some great letter but no small one",
        () -> styles(3, "_A", "_Z", "A_", "A_B", "A_1", "__A", "_1A", "AB_", "_".repeat(23) + "Z"));
    due.test("II", "else 1 if the first letter is great",
        () -> styles(1, "A", "Z", "Ab", "AB", "A1", "A1b", "Zz", "_Ab", "_Za", "A_b", "A_bC", "_1Ab",
            "Z_a", "A" + "_".repeat(22) + "a"));
    due.test("II", "else 0",
        () -> styles(0, "a", "z", "aB", "aZ", "a1", "a1B", "_aB", "_zA", "a_B", "a_BC", "_1aB", "z_A",
            "a" + "_".repeat(22) + "A"));
    written();
  }

  /** The PARTS of a name, seen by words of the book; those of digits can't be words. */
  private static void parts(String name, String... parts) {
    House h = new House();
    h.thing(0, 0, name);
    due.is("how many of " + name, h.about(0, 3), parts.length);
    Map<String, Integer> words = new HashMap<>();
    for (String part : parts) {
      boolean letters = !Character.isDigit(part.charAt(0));
      if (!words.containsKey(part)) {
        words.put(part, letters ? h.word(0, part) : -2);
      }
    }
    for (int i = 0; i < parts.length; i++) {
      due.is("part " + i + " of " + name, h.part(0, i), words.get(parts[i]));
    }
    due.is("behind the last of " + name, h.part(0, parts.length), -1);
  }

  private static void count(String name, int parts) {
    due.is("how many of " + name, House.of(Made.named(name)).about(0, 3), parts);
  }

  private static void atLines() {
    parts("a_b", "a", "b");
    parts("_a", "a");
    parts("a_", "a");
    parts("a__b", "a", "b");
    parts("__a___b__", "a", "b");
    parts("A_B", "a", "b");
    parts("AB_CD", "ab", "cd");
    parts("A_b", "a", "b");
    parts("a_B", "a", "b");
    parts("_1a", "1", "a");
    parts("a_1", "a", "1");
    parts("a_1_2", "a", "1", "2");
    parts("_".repeat(23) + "a", "a");
    parts("a" + "_".repeat(23), "a");
    parts("a" + "_".repeat(22) + "b", "a", "b");
    parts("a_b_c_d_e_f_g_h_i_j_k_l", "a", "b", "c", "d", "e", "f", "g", "h", "i", "j", "k", "l");
  }

  private static void smallAndGreat() {
    parts("aB", "a", "b");
    parts("zA", "z", "a");
    parts("aZ", "a", "z");
    parts("abCd", "ab", "cd");
    parts("aBCD", "a", "bcd");
    parts("aBaB", "a", "ba", "b");
    parts("Ab", "ab");
    parts("a", "a");
    parts("A", "a");
    parts("abcdefghijkL", "abcdefghijk", "l");
    count("a".repeat(23) + "B", 2);
    count("aBcBcBcBcBcBcBcBcBcBcBcB", 13);
  }

  private static void rowsOfGreat() {
    parts("ABc", "a", "bc");
    parts("ABCd", "ab", "cd");
    parts("AZz", "a", "zz");
    parts("ZAa", "z", "aa");
    parts("ABcDEf", "a", "bc", "d", "ef");
    parts("aBCd", "a", "b", "cd");
    parts("ABCdEFGh", "ab", "cd", "ef", "gh");
    parts("XAbY", "x", "ab", "y");
    parts("getURLs", "get", "ur", "ls");
    parts("Ab", "ab");
    parts("aBc", "a", "bc");
    parts("_Ab", "ab");
    parts("a1Bc", "a", "1", "bc");
    parts("ABC", "abc");
    parts("ABC_d", "abc", "d");
    parts("ABC1d", "abc", "1", "d");
    parts("AB_Cd", "ab", "cd");
    count("A".repeat(23) + "b", 2);
    count("A".repeat(24), 1);
  }

  private static void lettersAndDigits() {
    parts("a1", "a", "1");
    parts("A1", "a", "1");
    parts("z9", "z", "9");
    parts("Z0", "z", "0");
    parts("a1b", "a", "1", "b");
    parts("a1B", "a", "1", "b");
    parts("A1b", "a", "1", "b");
    parts("A1B", "a", "1", "b");
    parts("a12b", "a", "12", "b");
    parts("AB12CD", "ab", "12", "cd");
    parts("ABc12De3", "a", "bc", "12", "de", "3");
    parts("_1A", "1", "a");
    parts("a0123456789", "a", "0123456789");
    count("a1b2c3d4e5f6g7h8i9j0k1l2", 24);
    count("a" + "0".repeat(23), 2);
  }

  private static void madeSmall() {
    parts("ABCDEFGHIJKL_MNOPQRSTUVW", "abcdefghijkl", "mnopqrstuvw");
    parts("MNOPQRSTUVWX", "mnopqrstuvwx");
    parts("YZ", "yz");
    parts("ABCDEFGHIJKL", "abcdefghijkl");
    parts("Abc", "abc");
    parts("abc", "abc");
    House h = new House();
    h.word(0, "ab");
    h.thing(0, 0, "ab_AB_Ab_aB");
    due.is("small", h.part(0, 0), 0);
    due.is("great", h.part(0, 1), 0);
    due.is("both", h.part(0, 2), 0);
    due.is("cut in two", h.part(0, 3), -2);
  }

  private static void styles(int style, String... names) {
    for (String name : names) {
      due.is("of " + name, House.of(Made.named(name)).about(0, 4), style);
    }
  }

  private static void written() {
    due.test("II", "WRITTEN of PARTS in a STYLE: 0 together, each but the first with its first letter great",
        PartsTests::together);
    due.test("II", "1 each so", PartsTests::eachSo);
    due.test("II", "2 with _ between", PartsTests::withLines);
    due.test("II", "3 likewise, all letters great", PartsTests::allGreat);
  }

  /** What is written of a name's parts in its own style, short words in them opened. */
  private static void written(String name, String want) {
    House h = new House();
    h.word(0, "sh");
    h.word(0, "short");
    h.shorts(0, 1);
    h.thing(0, 0, name);
    due.is("bytes for " + name, h.offer(0), want.equals(name) ? -2 : want.length());
    due.is("written of " + name, h.out(), want.equals(name) ? "" : want);
  }

  private static void together() {
    written("a_Bc", "aBc");
    written("_aB", "aB");
    written("aBC", "aBc");
    written("a1b", "a1B");
    written("a12b3", "a12B3");
    written("z_A", "zA");
    written("aZZ_z_9_z", "aZzZ9Z");
    written("sh", "short");
    written("shShSH", "shortShortShort");
    written("aBc", "aBc");
    written("a", "a");
    written("a1", "a1");
  }

  private static void eachSo() {
    written("A_b", "AB");
    written("AB", "Ab");
    written("HTMLPage", "HtmlPage");
    written("A1b", "A1B");
    written("_Ab", "Ab");
    written("Zz_z", "ZzZ");
    written("Sh", "Short");
    written("ShSh_SH", "ShortShortShort");
    written("Ab", "Ab");
    written("A", "A");
    written("A1", "A1");
  }

  private static void withLines() {
    written("a__b", "a_b");
    written("_a", "a");
    written("a_", "a");
    written("a1_b", "a_1_b");
    written("a_1b", "a_1_b");
    written("sh_", "short");
    written("sh_sh_1", "short_short_1");
    written("a_b", "a_b");
    written("a_1", "a_1");
  }

  private static void allGreat() {
    written("A__B", "A_B");
    written("_A", "A");
    written("A_", "A");
    written("_Z_A", "Z_A");
    written("A1_B", "A_1_B");
    written("SH_", "SHORT");
    written("SH_SH_1", "SHORT_SHORT_1");
    written("HTML_PAGE", "HTML_PAGE");
    written("A_1", "A_1");
  }
}
