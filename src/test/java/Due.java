import java.util.ArrayList;
import java.util.List;

/**
 * Tests of the document's sentences: each quotes the words that it holds the class to, and answers are
 * held against those due. At the end no word of the sections told may be left without a test.
 */
final class Due {
  private final String name;
  private final String[] sections;
  private final Doc doc = new Doc();
  private String at = "";
  private int tests = 0;
  private int answers = 0;
  private int wrong = 0;

  Due(String name, String... sections) {
    this.name = name;
    this.sections = sections;
  }

  /** One test, of words that stand in a section of the document. */
  void test(String section, String words, Runnable body) {
    tests++;
    at = section + " '" + words + "'";
    if (!doc.says(section, words)) {
      fault("the document doesn't say that there");
    }
    try {
      body.run();
    } catch (RuntimeException e) {
      fault("threw " + e);
    }
  }

  private void fault(String what) {
    wrong++;
    System.out.println(name + ": " + at + ": " + what);
  }

  void is(String what, long got, long want) {
    answers++;
    if (got != want) {
      fault(what + " answered " + got + ", due is " + want);
    }
  }

  void is(String what, boolean got, boolean want) {
    is(what, got ? 1 : 0, want ? 1 : 0);
  }

  void is(String what, String got, String want) {
    answers++;
    if (!got.equals(want)) {
      fault(what + " answered '" + got + "', due is '" + want + "'");
    }
  }

  /** Two houses, made by different calls, show the same in everything but TROUBLE. */
  void same(String what, House.Calls made, House.Calls like) {
    answers++;
    List<String> got = State.of(made);
    List<String> want = State.of(like);
    if (!got.equals(want)) {
      List<String> more = new ArrayList<>(got);
      more.removeAll(want);
      List<String> less = new ArrayList<>(want);
      less.removeAll(got);
      fault(what + ": the house shows " + more + ", due is " + less);
    }
  }

  /** A call is answered by NONE, with that trouble, and nothing else changes. */
  void refused(String what, House.Calls made, House.Call call, int trouble) {
    refusedBy(what, NameHouse.NONE, made, call, trouble);
  }

  /** Likewise, for the calls that answer false (0). */
  void refusedBy(String what, int answer, House.Calls made, House.Call call, int trouble) {
    House h = House.of(made);
    is(what, call.on(h), answer);
    is(what + ", its trouble", h.trouble(), trouble);
    same(what + ", refused", made.and(c -> call.on(c)), made);
  }

  /** A call is answered, behind one that was refused, and there is no trouble then. */
  void accepted(String what, House.Calls made, House.Call call, int answer) {
    House h = House.of(made);
    h.scope(NameHouse.NONE);
    is(what, call.on(h), answer);
    is(what + ", its trouble", h.trouble(), 0);
  }

  /** A call that isn't refused by a trouble has its answer, and changes nothing, TROUBLE neither. */
  void asked(String what, House.Calls made, House.Call call, int answer) {
    House h = House.of(made);
    is(what, call.on(h), answer);
    same(what + ", asked", made.and(c -> call.on(c)), made);
    leavesTrouble(what, made, call);
  }

  void leavesTrouble(String what, House.Calls made, House.Call call) {
    House calm = House.of(made);
    int before = calm.trouble();
    call.on(calm);
    is(what + ", the trouble left", calm.trouble(), before);
    House troubled = House.of(made);
    troubled.scope(NameHouse.NONE);
    call.on(troubled);
    is(what + ", the trouble left", troubled.trouble(), 1);
  }

  void end() {
    for (String section : sections) {
      for (String words : doc.unquoted(section)) {
        at = section + " '" + words + "'";
        fault("no test is of these words");
      }
    }
    System.out.println(name + ": " + tests + " tests, " + answers + " answers, " + wrong + " wrong");
    if (wrong != 0) {
      System.exit(1);
    }
  }
}
