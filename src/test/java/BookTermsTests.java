/** Term III: WORDS, ROLES, PATTERN, WAY, ODD, OPENED, USED, HEAD, OFFER. */
final class BookTermsTests {
  private static Due due;

  private BookTermsTests() {
  }

  static void all(Due told) {
    due = told;
    due.test("III", "A WORD of the BOOK: 1 to 12 small letters", BookTermsTests::smallLetters);
    due.test("III", "with ROLES as bits (1 doing, 2 thing, 4 kind of it, 8 little word)",
        BookTermsTests::roles);
    due.test("III", "it may be SHORT for another one", BookTermsTests::shortForAnother);
    due.test("III", "WORDS may be ALIKE (in groups: alike ones of alike ones are)",
        BookTermsTests::groups);
    due.test("III", "ROLE of a PART: the lowest bit of the WORD that it is", BookTermsTests::lowestBit);
    due.test("III", "0 if it is none or has none", BookTermsTests::noRole);
    ways();
    opened();
    offers();
  }

  private static void isWord(String text) {
    due.accepted("'" + text + "'", Made.NEW, h -> h.word(0, text), 0);
    House h = House.of(Made.book("other", text).and(Made.named(text)));
    due.is("found as '" + text + "'", h.part(0, 0), 1);
  }

  private static void isNoWord(String text) {
    due.refused("'" + text + "'", Made.book("other"), h -> h.word(0, text), 2);
  }

  private static void smallLetters() {
    isNoWord("");
    isWord("a");
    isWord("z");
    isWord("abcdefghijk");
    isWord("abcdefghijkl");
    isWord("mnopqrstuvwx");
    isWord("zzzzzzzzzzzz");
    isNoWord("abcdefghijklm");
    isNoWord("a".repeat(24));
    isNoWord("a".repeat(200));
    for (int sign = 0; sign < 256; sign++) {
      String alone = "" + (char) sign;
      if (sign >= 'a' && sign <= 'z') {
        isWord(alone);
        isWord("b" + alone);
      } else {
        isNoWord(alone);
        isNoWord(alone + "b");
        isNoWord("b" + alone);
        isNoWord("abcdefghijk" + alone);
      }
    }
  }

  private static void roles() {
    House h = new House();
    for (int roles = 0; roles < 16; roles++) {
      due.is("word", h.word(roles, Made.word(roles)), roles);
    }
    for (int roles = 0; roles < 16; roles++) {
      due.is("its roles", h.told(roles, 0), roles);
    }
    due.refused("one bit more", Made.NEW, c -> c.word(16, 0), 2);
    due.refused("below none", Made.NEW, c -> c.word(-1, 0), 2);
  }

  private static void shortForAnother() {
    House h = House.of(Made.book("n", "num", "number"));
    due.is("for none at the beginning", h.told(0, 1), -1);
    h.shorts(0, 2);
    due.is("for another", h.told(0, 1), 2);
    due.is("that one for none", h.told(2, 1), -1);
    h.shorts(1, 2);
    due.is("two for one", h.told(1, 1), 2);
    h.shorts(2, 0);
    due.is("round about", h.told(2, 1), 0);
    due.is("and still", h.told(0, 1), 2);
    h.shorts(0, 1);
    due.is("for one alone", h.told(0, 1), 1);
  }

  private static void groups() {
    House h = House.of(Made.words(60));
    for (int w = 0; w < 60; w++) {
      due.is("alone at the beginning", h.told(w, 4), 1);
    }
    h.alike(1, 0);
    h.alike(2, 3);
    due.is("two", h.told(0, 4), 2);
    due.is("two others", h.told(3, 4), 2);
    h.alike(3, 0);
    for (int w = 0; w < 4; w++) {
      due.is("of alike ones", h.told(w, 4), 4);
    }
    due.is("one apart", h.told(4, 4), 1);
    for (int w = 59; w > 4; w--) {
      h.alike(w, w - 1);
    }
    due.is("all the others", h.told(4, 4), 56);
    due.is("the four still", h.told(0, 4), 4);
    h.alike(59, 1);
    due.is("all", h.told(2, 4), 60);
    due.is("all, by another", h.told(59, 4), 60);
  }

  private static void lowestBit() {
    int[] lowest = {0, 1, 2, 1, 4, 1, 2, 1, 8, 1, 2, 1, 4, 1, 2, 1};
    for (int roles = 1; roles < 16; roles++) {
      House h = new House();
      h.word(roles, "w");
      h.thing(0, 0, "w");
      due.is("of " + roles, h.about(0, 5), lowest[roles]);
    }
    House h = new House();
    h.word(1, "a");
    h.word(2, "b");
    h.shorts(0, 1);
    h.alike(0, 1);
    h.thing(0, 0, "a");
    due.is("of the WORD that it is, not of what it is short for", h.about(0, 5), 1);
  }

  private static void noRole() {
    House h = new House();
    h.word(0, "w");
    h.word(15, "abcdefghijkl");
    h.thing(0, 0, "w");
    h.thing(0, 0, "x");
    h.thing(0, 0, "_1x");
    h.thing(0, 0, "abcdefghijklm");
    h.thing(0, 0, "pabcdefghijkl");
    for (int t = 0; t < 5; t++) {
      due.is("of thing " + t, h.about(t, 5), 0);
    }
  }

  // ---- PATTERN, WAY, ODD

  private static void ways() {
    due.test("III", "PATTERN of a NAME: ROLES of its first four PARTS", BookTermsTests::fourParts);
    due.test("III", "each times 16 what is ahead of it and it (the first highest)",
        BookTermsTests::timesSixteen);
    due.test("III", "WAY of a KIND (0 value, 1 act, 2 sort): the PATTERN that most THINGS of it have",
        BookTermsTests::most);
    due.test("III", "(of as frequent ones the least)", BookTermsTests::least);
    due.test("III", "ODD: a THING whose PATTERN isn't the WAY of its KIND", BookTermsTests::odd);
  }

  /** Words a, b, c, d of one role each: 1, 2, 4, 8. */
  private static final House.Calls ROLES = h -> {
    h.word(1, "a");
    h.word(2, "b");
    h.word(4, "c");
    h.word(8, "d");
  };

  private static void pattern(String name, int want) {
    due.is("of " + name, House.of(ROLES.and(Made.named(name))).about(0, 5), want);
  }

  private static void fourParts() {
    pattern("x_y_z_1", 0);
    pattern("x_y_z_d", 8);
    pattern("x_y_z_w_d", 0);
    pattern("x_y_z_d_a", 8);
    pattern("d_d_d_d", 0x8888);
    pattern("d_d_d_d_d", 0x8888);
    pattern("d_d_d_d_d_d_d_d_d_d_d_d", 0x8888);
    pattern("a_b_c_d_a", 0x1248);
  }

  private static void timesSixteen() {
    pattern("x", 0);
    pattern("a", 1);
    pattern("d", 8);
    pattern("a_b", 0x12);
    pattern("b_a", 0x21);
    pattern("a_x", 0x10);
    pattern("x_a", 0x01);
    pattern("a_b_c", 0x124);
    pattern("a_x_1", 0x100);
    pattern("a_b_c_d", 0x1248);
    pattern("d_c_b_a", 0x8421);
    pattern("aBCd", 0x120);
    pattern("a1b", 0x102);
  }

  /** Things of a kind by names: a letter for the pattern, a number to tell them apart. */
  private static House.Calls ofKind(int kind, String letters) {
    return h -> {
      for (int i = 0; i < letters.length(); i++) {
        h.thing(0, kind, "" + letters.charAt(i) + kind + "_" + i);
      }
    };
  }

  private static void way(String letters, int want) {
    for (int kind = 0; kind < 3; kind++) {
      House h = House.of(ROLES.and(ofKind((kind + 1) % 3, "ddddd")).and(ofKind(kind, letters)));
      due.is("of " + letters + ", kind " + kind, h.way(kind), want);
      due.is("of another kind", h.way((kind + 1) % 3), 0x800);
      due.is("of no things", h.way((kind + 2) % 3), -2);
    }
  }

  private static void most() {
    way("a", 0x100);
    way("x", 0);
    way("abb", 0x200);
    way("bba", 0x200);
    way("bab", 0x200);
    way("axcxbx", 0);
    way("abcdd", 0x800);
    House h = House.of(ROLES.and(ofKind(2, "a".repeat(39) + "b".repeat(41))));
    due.is("of eighty", h.way(2), 0x200);
  }

  private static void least() {
    way("ba", 0x100);
    way("ab", 0x100);
    way("bx", 0);
    way("xb", 0);
    way("dcba", 0x100);
    way("dcbadcb", 0x200);
    way("ddccbba", 0x200);
    House h = House.of(ROLES.and(ofKind(2, "b".repeat(40) + "a".repeat(40))));
    due.is("forty of each", h.way(2), 0x100);
  }

  private static void odds(String letters, String want) {
    House h = House.of(ROLES.and(ofKind(1, letters)).and(ofKind(0, "d")));
    StringBuilder got = new StringBuilder();
    for (int t = 0; t < letters.length(); t++) {
      got.append(h.isOdd(t));
    }
    due.is("of " + letters, got.toString(), want);
    due.is("of the other kind", h.isOdd(letters.length()), 0);
  }

  private static void odd() {
    odds("a", "0");
    odds("ab", "01");
    odds("ba", "10");
    odds("bab", "010");
    odds("xxd", "001");
    odds("abcd", "0111");
  }

  // ---- OPENED, USED, HEAD

  private static void opened() {
    due.test("III", "OPENED of a PART: while it is a WORD that is SHORT, what it is SHORT for",
        BookTermsTests::whileShort);
    due.test("III", "(60 times at most)", BookTermsTests::sixtyTimes);
    due.test("III", "USED of a WORD: in how many PARTS of all NAMES of THINGS it stands, each OPENED",
        BookTermsTests::used);
    due.test("III", "HEAD of a WORD: of its group the one with the greatest USED",
        BookTermsTests::greatestUsed);
    due.test("III", "(of as great ones the first in the BOOK)", BookTermsTests::firstInBook);
  }

  /** The word by which a part that is word 0 is opened: the one that is used. */
  private static void opens(String what, House.Calls made, int words, int want) {
    House h = House.of(made.and(Made.named(Made.word(0))));
    for (int w = 0; w < words; w++) {
      due.is(what + ", used of " + w, h.told(w, 2), w == want ? 1 : 0);
    }
    due.is(what + ", bytes offered", h.offer(0), want == 0 ? -2 : 3);
    due.is(what + ", offered", h.out(), want == 0 ? "" : Made.word(want));
  }

  /** Words, each short for the next, and the last for the one of that number (-1: for none). */
  private static House.Calls row(int words, int last) {
    return Made.words(words).and(h -> {
      for (int w = 0; w + 1 < words; w++) {
        h.shorts(w, w + 1);
      }
      if (last >= 0) {
        h.shorts(words - 1, last);
      }
    });
  }

  private static void whileShort() {
    opens("not short", Made.words(2), 2, 0);
    for (int words = 2; words <= 60; words++) {
      opens("a row of " + words, row(words, -1), words, words - 1);
    }
    opens("no more short", row(3, -1).and(h -> h.shorts(1, -1)), 3, 1);
    House h = House.of(row(3, -1).and(Made.named("other")));
    due.is("no word is no short one", h.offer(0), -2);
  }

  private static void sixtyTimes() {
    for (int words = 2; words <= 60; words++) {
      opens("a ring of " + words, row(words, 0), words, 60 % words);
    }
    for (int ahead = 1; ahead <= 30; ahead++) {
      for (int ring = 2; ring <= 7; ring++) {
        int words = ahead + ring;
        opens(ahead + " ahead of a ring of " + ring, row(words, ahead), words,
            ahead + (60 - ahead) % ring);
      }
    }
  }

  private static void used() {
    House h = House.of(Made.book("a", "b", "c"));
    due.is("no things", h.told(0, 2), 0);
    h.thing(0, 0, "a");
    due.is("one part", h.told(0, 2), 1);
    h.thing(0, 1, "aA_A1a");
    due.is("each part counts", h.told(0, 2), 5);
    h.thing(0, 2, "ab_a_xa");
    due.is("whole parts alone", h.told(0, 2), 6);
    h.thing(0, 2, "b_b_c");
    h.shorts(1, 0);
    due.is("opened", h.told(0, 2), 8);
    due.is("the short one isn't", h.told(1, 2), 0);
    due.is("the other one", h.told(2, 2), 1);
    h.use(0, "a");
    h.rename(0, "c_c");
    due.is("uses and renames told are no names of things", h.told(0, 2), 8);
    due.is("a rename told", h.told(2, 2), 1);
    h.turn();
    due.is("made", h.told(2, 2), 3);
    due.is("the old name has gone", h.told(0, 2), 7);
    House all = House.of(Made.deep(20).and(Made.book("a")).and(c -> {
      for (int s = 0; s < 20; s++) {
        c.thing(s, s % 3, "a_a_a_a_a_a_a_a_a_a_a_a");
        c.thing(s, s % 3, "_a_a_a_a_a_a_a_a_a_a_a_a");
        c.thing(s, s % 3, "a_a_a_a_a_a_a_a_a_a_a_A");
        c.thing(s, s % 3, "A_a_a_a_a_a_a_a_a_a_a_a");
      }
    }));
    due.is("in all of eighty names", all.told(0, 2), 80 * 12);
  }

  private static void heads(String what, House h, int words, int want) {
    for (int w = 0; w < words; w++) {
      due.is(what + ", head of " + w, h.told(w, 3), want);
    }
  }

  private static void greatestUsed() {
    House h = House.of(Made.book("a", "b", "c", "d", "e"));
    h.thing(0, 0, "e_e_e_e");
    h.thing(0, 0, "b");
    for (int w = 0; w < 5; w++) {
      due.is("alone, of " + w, h.told(w, 3), w);
    }
    h.alike(3, 2);
    h.alike(0, 1);
    h.alike(1, 3);
    heads("the only used", h, 4, 1);
    due.is("one apart", h.told(4, 3), 4);
    h.thing(0, 0, "d_d");
    heads("twice used", h, 4, 3);
    h.thing(0, 0, "a_a_a");
    heads("three times used", h, 4, 0);
    h.shorts(0, 2);
    heads("used as it is opened", h, 4, 2);
    h.alike(4, 2);
    heads("four times used", h, 5, 4);
  }

  private static void firstInBook() {
    House h = House.of(Made.book("a", "b", "c", "d"));
    h.alike(3, 2);
    h.alike(2, 1);
    due.is("none used", h.told(3, 3), 1);
    due.is("none used, another", h.told(1, 3), 1);
    h.alike(1, 0);
    heads("none used", h, 4, 0);
    h.thing(0, 0, "d_c");
    heads("two used once", h, 4, 2);
    h.thing(0, 0, "b");
    heads("three used once", h, 4, 1);
    h.thing(0, 0, "c_d_d");
    heads("one used more", h, 4, 3);
    h.thing(0, 0, "c");
    heads("two used three times", h, 4, 2);
    House all = House.of(Made.words(60).and(c -> {
      for (int w = 59; w > 0; w--) {
        c.alike(w, w - 1);
      }
    }));
    heads("sixty", all, 60, 0);
  }

  // ---- OFFER

  private static void offers() {
    due.test("III", "OFFER for a THING: its PARTS, each OPENED", BookTermsTests::offerOpened);
    due.test("III", "and if that is a WORD its HEAD", BookTermsTests::offerHead);
    due.test("III", "WRITTEN in the NAME's STYLE", BookTermsTests::offerStyle);
    due.test("III", "None if that is no NAME", BookTermsTests::offerNone);
  }

  /** Words cnt, count, size: the first short for the second, and that one alike to the third. */
  private static final House.Calls COUNTS = Made.book("cnt", "count", "size").and(h -> {
    h.shorts(0, 1);
    h.alike(1, 2);
  });

  private static void offer(House.Calls book, String name, String want) {
    House h = House.of(book.and(Made.named(name)));
    int thing = h.count(1) - 1;
    due.is("bytes for " + name, h.offer(thing), want.isEmpty() ? -2 : want.length());
    due.is("for " + name, h.out(), want);
  }

  private static void offerOpened() {
    offer(COUNTS, "cnt", "count");
    offer(COUNTS, "cntOfCnt", "countOfCount");
    offer(COUNTS, "my_cnt", "my_count");
    offer(COUNTS, "cnts", "");
    offer(COUNTS, "count", "");
    offer(COUNTS.and(h -> h.shorts(1, 2)), "cnt", "size");
    offer(COUNTS.and(h -> h.shorts(0, -1)), "cnt", "");
  }

  private static void offerHead() {
    House.Calls sizes = COUNTS.and(Made.named("size_size_size_size"));
    offer(sizes, "cnt", "size");
    offer(sizes, "count", "size");
    offer(sizes, "itemCntCount", "itemSizeSize");
    offer(sizes, "size", "");
    offer(sizes, "other", "");
    offer(sizes, "count_count_count", "size_size_size");
    offer(sizes, "count_count_count_count", "");
    offer(COUNTS.and(Made.named("size")), "size_cnt", "size_size");
    offer(COUNTS.and(Made.named("size")), "cnt", "count");
    offer(COUNTS.and(Made.named("count")), "size", "count");
    offer(COUNTS.and(h -> h.alike(0, 2)), "size", "");
    offer(COUNTS.and(h -> h.alike(0, 2)), "size_cnt", "count_count");
  }

  private static void offerStyle() {
    House.Calls sizes = COUNTS.and(Made.named("size_size_size_size"));
    offer(sizes, "itemCnt2", "itemSize2");
    offer(sizes, "ItemCnt2", "ItemSize2");
    offer(sizes, "CNT", "Size");
    offer(sizes, "item_cnt_2", "item_size_2");
    offer(sizes, "ITEM_CNT_2", "ITEM_SIZE_2");
    offer(sizes, "item_CNT", "itemSize");
    offer(sizes, "Item_cnt", "ItemSize");
    offer(sizes, "_cnt", "size");
    offer(sizes, "_CNT", "SIZE");
    offer(sizes, "cnt1cnt", "size1Size");
  }

  private static void offerNone() {
    offer(Made.NEW, "_1a", "");
    offer(Made.NEW, "_1A", "");
    offer(Made.NEW, "_1aB", "");
    offer(Made.NEW, "_1Ab", "");
    String a = "a".repeat(17);
    offer(COUNTS, a + "1Cnt", a + "1Count");
    offer(COUNTS, a + "xCnt", a + "xCount");
    offer(COUNTS, a + "xxCnt", a + "xxCount");
    offer(COUNTS, a + "xxxCnt", "");
    offer(COUNTS, a + "xxxxCnt", "");
    offer(COUNTS, a + "x_cnt", a + "x_count");
    offer(COUNTS, a + "xx_cnt", "");
    offer(COUNTS, "a1b2c3d4e5f6_", "a_1_b_2_c_3_d_4_e_5_f_6");
    offer(COUNTS, "aa1b2c3d4e5f6_", "aa_1_b_2_c_3_d_4_e_5_f_6");
    offer(COUNTS, "a1b2c3d4e5f6g_", "");
    offer(COUNTS, "a1b2c3d4e5f6g7h8i9j0k1l_", "");
    House.Calls twelve = Made.book("a", "abcdefghijkl").and(h -> h.shorts(0, 1));
    offer(twelve, "aA", "abcdefghijklAbcdefghijkl");
    offer(twelve, "a_a", "");
    offer(twelve, "a_a_a_a_a_a_a_a_a_a_a_a", "");
  }
}
