import java.util.NoSuchElementException;

/**
 * A NameHouse that counts its calls, for the answers past the 512th are free, and that takes texts in
 * place of numbers for the tape.
 */
final class House {
  static final int CALLS = 512;
  /** What stands for an answer where the call throws NoSuchElementException. */
  static final int THROWN = -777;

  /** One call, with its answer. */
  interface Call {
    int on(House h);
  }

  /** Some calls, whatever they answer. */
  interface Calls {
    void on(House h);

    default Calls and(Calls more) {
      return h -> {
        on(h);
        more.on(h);
      };
    }
  }

  private final NameHouse house = new NameHouse();
  private int calls = 0;

  static House of(Calls made) {
    House h = new House();
    made.on(h);
    return h;
  }

  int callsLeft() {
    return CALLS - calls;
  }

  /** The object itself; calls made on it aren't counted. */
  NameHouse bare() {
    return house;
  }

  private NameHouse next() {
    calls++;
    if (calls > CALLS) {
      throw new IllegalStateException("the test makes more than 512 calls: their answers are free");
    }
    return house;
  }

  int feed(int a, int b, int c, int d, int e) {
    return next().feed(a, b, c, d, e);
  }

  int scope(int around) {
    return next().scope(around);
  }

  int thing(int scope, int kind, int n) {
    return next().thing(scope, kind, n);
  }

  int use(int scope, int n) {
    return next().use(scope, n);
  }

  int about(int thing, int what) {
    return next().about(thing, what);
  }

  int name(int thing, int i) {
    try {
      return next().name(thing, i);
    } catch (NoSuchElementException e) {
      return THROWN;
    }
  }

  int means(int use, int what) {
    return next().means(use, what);
  }

  int find(int scope, int n) {
    return next().find(scope, n);
  }

  int word(int roles, int n) {
    return next().word(roles, n);
  }

  int shorts(int word, int other) {
    return next().shorts(word, other) ? 1 : 0;
  }

  int alike(int one, int other) {
    return next().alike(one, other) ? 1 : 0;
  }

  int told(int word, int what) {
    return next().told(word, what);
  }

  int part(int thing, int i) {
    return next().part(thing, i);
  }

  int way(int kind) {
    return next().way(kind);
  }

  int odd(int kind) {
    return next().odd(kind);
  }

  int isOdd(int thing) {
    return next().isOdd(thing);
  }

  int mixed() {
    return next().mixed();
  }

  int strange() {
    return next().strange();
  }

  int offer(int thing) {
    return next().offer(thing);
  }

  int out(int i) {
    try {
      return next().out(i);
    } catch (NoSuchElementException e) {
      return THROWN;
    }
  }

  int rename(int thing, int n) {
    return next().rename(thing, n);
  }

  int renames() {
    return next().renames();
  }

  int none() {
    return next().none();
  }

  int hinders() {
    return next().hinders();
  }

  int turn() {
    return next().turn();
  }

  int back() {
    return next().back();
  }

  int keep() {
    return next().keep();
  }

  int count(int what) {
    return next().count(what);
  }

  int trouble() {
    return next().trouble();
  }

  /** Feeds a text, with blanks behind it up to the next twenty bytes; twenty blanks for none. */
  int feed(String text) {
    int answer = 0;
    for (int from = 0; from == 0 || from < text.length(); from += 20) {
      int[] n = numbers(text, from);
      answer = feed(n[0], n[1], n[2], n[3], n[4]);
    }
    return answer;
  }

  static int[] numbers(String text, int from) {
    int[] numbers = new int[5];
    for (int i = 0; i < 20; i++) {
      int b = from + i < text.length() ? text.charAt(from + i) & 255 : ' ';
      numbers[i / 4] = numbers[i / 4] << 8 | b;
    }
    return numbers;
  }

  int thing(int scope, int kind, String name) {
    feed(name);
    return thing(scope, kind, name.length());
  }

  int use(int scope, String name) {
    feed(name);
    return use(scope, name.length());
  }

  int find(int scope, String name) {
    feed(name);
    return find(scope, name.length());
  }

  int word(int roles, String word) {
    feed(word);
    return word(roles, word.length());
  }

  int rename(int thing, String name) {
    feed(name);
    return rename(thing, name.length());
  }

  /** A thing's name, read byte by byte. */
  String name(int thing) {
    StringBuilder text = new StringBuilder();
    int size = about(thing, 2);
    for (int i = 0; i < size; i++) {
      text.append((char) name(thing, i));
    }
    return text.toString();
  }

  String out() {
    StringBuilder text = new StringBuilder();
    int size = count(5);
    for (int i = 0; i < size; i++) {
      text.append((char) out(i));
    }
    return text.toString();
  }
}
