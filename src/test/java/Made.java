import java.util.stream.IntStream;

/** Houses in some state, by the calls that make them, and numbers that are there for nothing. */
final class Made {
  static final int LEAST = Integer.MIN_VALUE;
  static final int GREATEST = Integer.MAX_VALUE;
  static final House.Calls NEW = h -> { };

  private Made() {
  }

  /** So many scopes in all, each within the one ahead of it. */
  static House.Calls deep(int scopes) {
    return h -> {
      for (int s = 1; s < scopes; s++) {
        h.scope(s - 1);
      }
    };
  }

  /** So many things n0, n1, .. of the outermost scope, the kinds taken in turns. */
  static House.Calls things(int all) {
    return h -> {
      for (int t = 0; t < all; t++) {
        h.thing(0, t % 3, "n" + t);
      }
    };
  }

  /** Things of those names in the outermost scope, all values. */
  static House.Calls named(String... names) {
    return h -> {
      for (String name : names) {
        h.thing(0, 0, name);
      }
    };
  }

  /** A thing "a" of the outermost scope and so many uses of it there. */
  static House.Calls uses(int all) {
    return h -> {
      h.thing(0, 0, "a");
      for (int u = 0; u < all; u++) {
        h.use(0, "a");
      }
    };
  }

  /** So many words, without roles. */
  static House.Calls words(int all) {
    return h -> {
      for (int w = 0; w < all; w++) {
        h.word(0, word(w));
      }
    };
  }

  /** Those words, without roles. */
  static House.Calls book(String... words) {
    return h -> {
      for (String word : words) {
        h.word(0, word);
      }
    };
  }

  static String word(int i) {
    return "w" + (char) ('a' + i / 26) + (char) ('a' + i % 26);
  }

  /** Texts of the tape, so that so many bytes stand on it. */
  static House.Calls tape(int bytes) {
    return h -> {
      for (int i = 0; i < bytes / 20; i++) {
        h.feed("abcdefghijklmnopqrst");
      }
    };
  }

  /** Numbers that are none of 0 to size - 1, with those that would be by their low bits alone. */
  static int[] outside(int size) {
    int[] all = {-1, -2, -256, LEAST, LEAST + 1, size, size + 1, 256, 65536, 1 << 30, GREATEST};
    return IntStream.of(all).filter(i -> i < 0 || i >= size).toArray();
  }
}
