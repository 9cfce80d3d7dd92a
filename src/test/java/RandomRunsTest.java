import java.util.NoSuchElementException;
import java.util.Random;

/** Long runs of calls, made by number, whose answers are held against those of Plain. */
public final class RandomRunsTest {
  private static final int RUNS = 1500;
  /** No step makes more calls than these. */
  private static final int STEP = 8;
  private static final String[] PARTS = {"a", "b", "c", "n", "num", "number", "get", "set", "size",
      "count", "html", "x", "of", "the", "abcdefghijkl"};
  private static final int[] EDGES = {-1, -2, 0, 1, 2, 3, 19, 20, 59, 60, 79, 80, 149, 150, 200, 201,
      Integer.MAX_VALUE, Integer.MIN_VALUE};

  private final Random random;
  private final House house = new House();
  private final Plain plain = new Plain();
  private final StringBuilder log = new StringBuilder();
  private final int flavour;
  private int wrong = 0;

  private RandomRunsTest(int seed) {
    random = new Random(seed);
    flavour = seed % 8;
  }

  public static void main(String[] args) {
    for (int seed = 0; seed < RUNS; seed++) {
      RandomRunsTest run = new RandomRunsTest(seed);
      while (run.house.callsLeft() >= STEP && run.wrong == 0) {
        run.step();
      }
      while (run.house.callsLeft() > 0 && run.wrong == 0) {
        run.due("hinders()", run.house.hinders(), run.plain.hinders());
      }
      if (run.wrong > 0) {
        System.out.println("RandomRunsTest: run " + seed + "\n" + run.log);
        System.exit(1);
      }
    }
    System.out.println("RandomRunsTest: " + RUNS + " runs of " + House.CALLS + " calls as due");
  }

  private void due(String call, int got, int want) {
    log.append(call).append(" = ").append(got).append('\n');
    if (got != want) {
      wrong++;
      log.append("due is ").append(want).append('\n');
    }
  }

  private int below(int bound) {
    return random.nextInt(Math.max(1, bound));
  }

  /** Mostly a number below the count, at times one that is there for no thing, scope or word. */
  private int number(int what) {
    return below(30) == 0 ? EDGES[below(EDGES.length)] : below(plain.count(what));
  }

  private String text() {
    if (flavour == 1 || flavour == 3 && below(3) > 0) {
      return "v" + below(130);
    }
    if (flavour == 2) {
      return "" + (char) ('a' + below(4));
    }
    int style = below(6);
    StringBuilder text = new StringBuilder(below(12) == 0 ? "_" : "");
    int parts = 1 + below(4);
    for (int i = 0; i < parts; i++) {
      String part = below(7) == 0 ? "" + below(30) : PARTS[below(PARTS.length)];
      switch (style) {
        case 0 -> text.append(i == 0 ? part : great(part));
        case 1 -> text.append(great(part));
        case 2 -> text.append(i == 0 ? "" : "_").append(part);
        case 3 -> text.append(i == 0 ? "" : "_").append(part.toUpperCase());
        default -> text.append(below(3) == 0 ? "_" : "")
            .append(below(3) == 0 ? part : below(2) == 0 ? great(part) : part.toUpperCase());
      }
    }
    if (below(40) == 0) {
      text.append("-\u00e9 @[`{/:".charAt(below(9)));
    }
    return text.length() > 24 && below(4) > 0 ? text.substring(0, 24) : text.toString();
  }

  private static String great(String part) {
    return part.substring(0, 1).toUpperCase() + part.substring(1);
  }

  /** Puts a text on both tapes and answers its length, or at times another number. */
  private int fed(String text) {
    for (int from = 0; from < Math.max(1, text.length()); from += 20) {
      feed(House.numbers(text, from));
    }
    return below(40) == 0 ? EDGES[below(EDGES.length)] : text.length();
  }

  private void feed(int[] n) {
    due("feed(" + n[0] + ", " + n[1] + ", " + n[2] + ", " + n[3] + ", " + n[4] + ")",
        house.feed(n[0], n[1], n[2], n[3], n[4]), plain.feed(n[0], n[1], n[2], n[3], n[4]));
  }

  private void step() {
    int most = flavour == 3 ? 24 : 100;
    int kind = below(most);
    if (kind < 22) {
      makeThingOrUse(flavour == 3 ? below(3) == 0 : below(5) > 1);
    } else if (kind < 24) {
      scope();
    } else if (kind < 42) {
      book();
    } else if (kind < 66) {
      renaming();
    } else {
      asking();
    }
    if (below(3) == 0) {
      due("trouble()", house.trouble(), plain.trouble());
    }
  }

  private void makeThingOrUse(boolean isThing) {
    int s = number(0);
    String text = text();
    if (isThing) {
      int n = fed(text);
      int kind = below(40) == 0 ? EDGES[below(EDGES.length)] : below(3);
      due("thing(" + s + ", " + kind + ", " + n + ")", house.thing(s, kind, n), plain.thing(s, kind, n));
      return;
    }
    int n = fed(below(4) > 0 ? knownName(text) : text);
    if (below(5) == 0) {
      due("find(" + s + ", " + n + ")", house.find(s, n), plain.find(s, n));
    } else {
      due("use(" + s + ", " + n + ")", house.use(s, n), plain.use(s, n));
    }
  }

  /** The name of some thing, told by the model so that it takes no call. */
  private String knownName(String other) {
    return plain.count(1) == 0 ? other : plain.nameOf(below(plain.count(1)));
  }

  private void scope() {
    int s = number(0);
    due("scope(" + s + ")", house.scope(s), plain.scope(s));
  }

  private void book() {
    int one = number(3);
    int other = number(3);
    switch (below(4)) {
      case 0 -> due("shorts(" + one + ", " + other + ")", house.shorts(one, other),
          plain.shorts(one, other) ? 1 : 0);
      case 1 -> {
        if (below(3) == 0) {
          due("alike(" + one + ", " + other + ")", house.alike(one, other),
              plain.alike(one, other) ? 1 : 0);
        }
      }
      default -> {
        String word = flavour == 4 ? "w" + (char) ('a' + below(26)) + (char) ('a' + below(4))
            : below(9) == 0 ? text() : PARTS[below(PARTS.length)];
        int n = fed(word);
        int roles = below(40) == 0 ? EDGES[below(EDGES.length)] : below(16);
        due("word(" + roles + ", " + n + ")", house.word(roles, n), plain.word(roles, n));
      }
    }
  }

  private void renaming() {
    switch (below(12)) {
      case 0 -> due("renames()", house.renames(), plain.renames());
      case 1 -> due("turn()", house.turn(), plain.turn());
      case 2 -> due("back()", house.back(), plain.back());
      case 3 -> due("keep()", house.keep(), plain.keep());
      case 4 -> {
        if (below(4) == 0) {
          due("none()", house.none(), plain.none());
        }
      }
      case 5, 6 -> {
        int t = number(1);
        due("offer(" + t + ")", house.offer(t), plain.offer(t));
      }
      case 7 -> due("hinders()", house.hinders(), plain.hinders());
      default -> {
        int t = number(1);
        int n = fed(below(2) == 0 ? knownName("a") : text());
        due("rename(" + t + ", " + n + ")", house.rename(t, n), plain.rename(t, n));
      }
    }
  }

  private void asking() {
    int t = number(1);
    int w = number(3);
    int i = below(20) == 0 ? EDGES[below(EDGES.length)] : below(8);
    switch (below(13)) {
      case 0, 1 -> due("about(" + t + ", " + i + ")", house.about(t, i), plain.about(t, i));
      case 2 -> name(t, i);
      case 3 -> means(number(2), below(3));
      case 4, 5 -> due("told(" + w + ", " + i + ")", house.told(w, i), plain.told(w, i));
      case 6 -> due("part(" + t + ", " + i + ")", house.part(t, i), plain.part(t, i));
      case 7 -> due("way(" + i + ")", house.way(i % 4), plain.way(i % 4));
      case 8 -> due("odd(" + i + ")", house.odd(i % 4), plain.odd(i % 4));
      case 9 -> due("isOdd(" + t + ")", house.isOdd(t), plain.isOdd(t));
      case 10 -> due("mixed()", house.mixed(), plain.mixed());
      case 11 -> due("strange()", house.strange(), plain.strange());
      default -> {
        out(i);
        due("count(" + i + ")", house.count(i), plain.count(i));
      }
    }
  }

  private void means(int u, int what) {
    due("means(" + u + ", " + what + ")", house.means(u, what), plain.means(u, what));
  }

  private void name(int t, int i) {
    int want;
    try {
      want = plain.name(t, i);
    } catch (NoSuchElementException e) {
      want = House.THROWN;
    }
    due("name(" + t + ", " + i + ")", house.name(t, i), want);
  }

  private void out(int i) {
    int want;
    try {
      want = plain.out(i);
    } catch (NoSuchElementException e) {
      want = House.THROWN;
    }
    due("out(" + i + ")", house.out(i), want);
  }
}
