import java.util.NoSuchElementException;

/** What the tests share: answers held against those due, and calls by texts in place of the tape. */
final class Due {
  private final String test;
  private int wrong = 0;
  private int asked = 0;

  Due(String test) {
    this.test = test;
  }

  void is(String what, long got, long want) {
    asked++;
    if (got != want) {
      wrong++;
      System.out.println(test + ": " + what + " answered " + got + ", due is " + want);
    }
  }

  void is(String what, boolean got, boolean want) {
    is(what, got ? 1 : 0, want ? 1 : 0);
  }

  void is(String what, String got, String want) {
    asked++;
    if (!got.equals(want)) {
      wrong++;
      System.out.println(test + ": " + what + " answered '" + got + "', due is '" + want + "'");
    }
  }

  /** The answer and the trouble behind it. */
  void refused(String what, NameHouse house, long got, long trouble) {
    is(what, got, NameHouse.NONE);
    is(what + ", its trouble", house.trouble(), trouble);
  }

  void accepted(String what, NameHouse house, long got, long want) {
    is(what, got, want);
    is(what + ", its trouble", house.trouble(), 0);
  }

  void end() {
    System.out.println(test + ": " + asked + " answers, " + wrong + " wrong");
    if (wrong != 0) {
      System.exit(1);
    }
  }

  static int feed(NameHouse house, String text) {
    int tape = house.count(6);
    for (int from = 0; from < text.length(); from += 20) {
      int[] numbers = new int[5];
      for (int i = 0; i < 20; i++) {
        int b = from + i < text.length() ? text.charAt(from + i) & 255 : ' ';
        numbers[i / 4] = numbers[i / 4] << 8 | b;
      }
      tape = house.feed(numbers[0], numbers[1], numbers[2], numbers[3], numbers[4]);
    }
    return tape;
  }

  static int thing(NameHouse house, int scope, int kind, String name) {
    feed(house, name);
    return house.thing(scope, kind, name.length());
  }

  static int use(NameHouse house, int scope, String name) {
    feed(house, name);
    return house.use(scope, name.length());
  }

  static int find(NameHouse house, int scope, String name) {
    feed(house, name);
    return house.find(scope, name.length());
  }

  static int word(NameHouse house, int roles, String word) {
    feed(house, word);
    return house.word(roles, word.length());
  }

  static int rename(NameHouse house, int thing, String name) {
    feed(house, name);
    return house.rename(thing, name.length());
  }

  /** A thing's name, read byte by byte. */
  static String name(NameHouse house, int thing) {
    StringBuilder text = new StringBuilder();
    for (int i = 0; i < house.about(thing, 2); i++) {
      text.append((char) house.name(thing, i));
    }
    return text.toString();
  }

  static String out(NameHouse house) {
    StringBuilder text = new StringBuilder();
    for (int i = 0; i < house.count(5); i++) {
      text.append((char) house.out(i));
    }
    return text.toString();
  }

  static boolean nameThrows(NameHouse house, int thing, int i) {
    try {
      house.name(thing, i);
      return false;
    } catch (NoSuchElementException e) {
      return true;
    }
  }

  static boolean outThrows(NameHouse house, int i) {
    try {
      house.out(i);
      return false;
    } catch (NoSuchElementException e) {
      return true;
    }
  }
}
