import java.util.ArrayList;
import java.util.List;

/**
 * All that a house shows which some calls made, but for TROUBLE: what it answers when it is asked, and
 * what comes of the calls that bring to light what can't be asked (the RENAMES told, the turn() that can
 * be taken back, the bytes on the tape), and of the next calls that come in. It takes as many houses,
 * made alike, as the questions need.
 */
final class State {
  private static final int NAME_BYTES = 24;

  private final List<String> shown = new ArrayList<>();
  private House.Calls made;
  private House house;

  private State() {
  }

  static List<String> of(House.Calls made) {
    State state = new State();
    state.begin(made);
    state.askAll();
    state.tryCalls("turn", made, h -> h.turn());
    state.tryCalls("back", made, h -> h.back());
    state.tryCalls("keep", made, h -> h.keep());
    state.tryCalls("keep, turn", made.and(h -> h.keep()), h -> h.turn());
    state.tryTape(made);
    state.tryNext(made);
    return state.shown;
  }

  private void begin(House.Calls calls) {
    made = calls;
    house = House.of(calls);
  }

  private int ask(String what, House.Call question) {
    if (house.callsLeft() == 0) {
      house = House.of(made);
    }
    int answer = question.on(house);
    shown.add(what + " = " + answer);
    return answer;
  }

  private void askAll() {
    int[] counts = new int[7];
    for (int i = 0; i < counts.length; i++) {
      int what = i;
      counts[i] = ask("count " + what, h -> h.count(what));
    }
    askThings(counts[1]);
    askUses(counts[2]);
    askBook(counts[3]);
    for (int i = 0; i < counts[5]; i++) {
      int at = i;
      ask("out " + at, h -> h.out(at));
    }
    ask("hinders", h -> h.hinders());
  }

  private void askThings(int things) {
    for (int i = 0; i < things; i++) {
      int thing = i;
      for (int j = 0; j < 7; j++) {
        int what = j;
        ask("about " + thing + ", " + what, h -> h.about(thing, what));
      }
      ask("isOdd " + thing, h -> h.isOdd(thing));
      int part = 0;
      for (int j = 0; j <= NAME_BYTES && part != NameHouse.NONE; j++) {
        int at = j;
        part = ask("part " + thing + ", " + at, h -> h.part(thing, at));
      }
    }
    askNames(things);
    for (int i = 0; i < 3; i++) {
      int kind = i;
      ask("way " + kind, h -> h.way(kind));
      ask("odd " + kind, h -> h.odd(kind));
    }
    ask("strange", h -> h.strange());
  }

  private void askNames(int things) {
    for (int i = 0; i < things; i++) {
      int thing = i;
      int sign = 0;
      for (int j = 0; j <= NAME_BYTES && sign != House.THROWN; j++) {
        int at = j;
        sign = ask("name " + thing + ", " + at, h -> h.name(thing, at));
      }
    }
  }

  private void askUses(int uses) {
    for (int i = 0; i < uses; i++) {
      int use = i;
      ask("means " + use + ", 0", h -> h.means(use, 0));
      ask("means " + use + ", 1", h -> h.means(use, 1));
    }
  }

  private void askBook(int words) {
    for (int i = 0; i < words; i++) {
      int word = i;
      for (int j = 0; j < 5; j++) {
        int what = j;
        ask("told " + word + ", " + what, h -> h.told(word, what));
      }
    }
    ask("mixed", h -> h.mixed());
  }

  /** What a call answers, and the names and renames that are there then. */
  private void tryCalls(String what, House.Calls ahead, House.Call call) {
    int answer = call.on(House.of(ahead));
    shown.add(what + " = " + answer);
    begin(ahead.and(h -> call.on(h)));
    askNames(ask(what + ": count 1", h -> h.count(1)));
    ask(what + ": count 4", h -> h.count(4));
  }

  /** The bytes on the tape, as far as they are a name. */
  private void tryTape(House.Calls ahead) {
    int bytes = House.of(ahead).count(6);
    for (int i = 1; i <= NAME_BYTES && i <= bytes; i++) {
      int n = i;
      House h = House.of(ahead);
      int thing = h.thing(0, 0, n);
      shown.add("tape, thing " + n + " = " + thing + " " + h.name(thing));
      tryTapeByRename(ahead, n);
    }
  }

  private void tryTapeByRename(House.Calls ahead, int n) {
    House h = House.of(ahead);
    h.none();
    int renames = h.rename(0, n);
    int turned = h.turn();
    shown.add("tape, rename " + n + " = " + renames + ", " + turned + " " + h.name(0));
  }

  /** What the next calls answer: names and words come in, offers are made. */
  private void tryNext(House.Calls ahead) {
    House.Calls emptied = ahead.and(h -> h.find(0, h.count(6)));
    House h = House.of(emptied);
    shown.add("next scope = " + h.scope(0));
    shown.add("next word = " + h.word(1, "next"));
    shown.add("next find = " + h.find(0, "nextName"));
    shown.add("next thing = " + h.thing(0, 1, "nextName"));
    shown.add("next use = " + h.use(0, "nextName"));
    shown.add("next offer = " + h.offer(0) + " " + h.out());
    shown.add("next renames = " + h.renames() + ", turn = " + h.turn() + " " + h.name(0));
    House g = House.of(emptied);
    shown.add("next rename = " + g.rename(0, "nextName") + ", turn = " + g.turn() + " " + g.name(0));
  }
}
