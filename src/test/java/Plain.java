import java.util.ArrayList;
import java.util.HashMap;
import java.util.HashSet;
import java.util.List;
import java.util.Map;
import java.util.NoSuchElementException;
import java.util.Set;
import java.util.TreeMap;

/** The document written down a second time, with the library and without care for speed. */
final class Plain {
  private static final String CUTS = "_+|(?<=[a-z])(?=[A-Z])|(?<=[A-Z])(?=[A-Z][a-z])"
      + "|(?<=[A-Za-z])(?=[0-9])|(?<=[0-9])(?=[A-Za-z])";

  private record Thing(int scope, int kind) { }

  private record Use(int scope, int thing) { }

  private final List<Integer> around = new ArrayList<>(List.of(-1));
  private final List<Thing> things = new ArrayList<>();
  private final List<String> names = new ArrayList<>();
  private final List<Use> uses = new ArrayList<>();
  private final List<String> words = new ArrayList<>();
  private final List<Integer> roles = new ArrayList<>();
  private final List<Integer> longs = new ArrayList<>();
  private final Set<List<Integer>> alikes = new HashSet<>();
  private final TreeMap<Integer, String> renames = new TreeMap<>();
  private List<String> beforeTurn = null;
  private int turned = 0;
  private String tape = "";
  private String out = "";
  private int trouble = 0;

  int feed(int a, int b, int c, int d, int e) {
    if (tape.length() > 180) {
      return -1;
    }
    StringBuilder more = new StringBuilder(tape);
    for (int number : new int[] {a, b, c, d, e}) {
      more.append((char) (number >>> 24)).append((char) (number >>> 16 & 255));
      more.append((char) (number >>> 8 & 255)).append((char) (number & 255));
    }
    tape = more.toString();
    return tape.length();
  }

  private int no(int why) {
    trouble = why;
    return -1;
  }

  private int yes(int answer) {
    trouble = 0;
    return answer;
  }

  private static boolean in(int i, List<?> list) {
    return i >= 0 && i < list.size();
  }

  private String take(int n) {
    if (n < 0 || n > tape.length()) {
      return null;
    }
    String text = tape.substring(0, n);
    tape = "";
    return text;
  }

  private static boolean isName(String text) {
    return text != null && text.matches("(?s)[A-Za-z_][A-Za-z0-9_]{0,23}")
        && text.matches("(?s).*[A-Za-z].*");
  }

  int scope(int s) {
    if (!in(s, around)) {
      return no(1);
    }
    if (around.size() == 20) {
      return no(3);
    }
    around.add(s);
    return yes(around.size() - 1);
  }

  /** What a use of the name in the scope means, the things having those names. */
  private int resolve(int scope, String name, List<String> all) {
    for (int s = scope; s >= 0; s = around.get(s)) {
      for (int t = 0; t < things.size(); t++) {
        if (things.get(t).scope() == s && all.get(t).equals(name)) {
          return t;
        }
      }
    }
    return -2;
  }

  int thing(int scope, int kind, int n) {
    if (!in(scope, around)) {
      return no(1);
    }
    if (kind < 0 || kind > 2) {
      return no(2);
    }
    String name = take(n);
    if (!isName(name)) {
      return no(2);
    }
    for (int t = 0; t < things.size(); t++) {
      if (things.get(t).scope() == scope && names.get(t).equals(name)) {
        return no(4);
      }
    }
    things.add(new Thing(scope, kind));
    names.add(name);
    boolean caught = false;
    for (Use use : uses) {
      caught |= resolve(use.scope(), names.get(use.thing()), names) != use.thing();
    }
    if (caught || things.size() > 80) {
      things.remove(things.size() - 1);
      names.remove(names.size() - 1);
      return no(caught ? 4 : 3);
    }
    beforeTurn = null;
    return yes(things.size() - 1);
  }

  int use(int scope, int n) {
    if (!in(scope, around)) {
      return no(1);
    }
    String name = take(n);
    if (!isName(name)) {
      return no(2);
    }
    int meant = resolve(scope, name, names);
    if (meant == -2) {
      return no(6);
    }
    if (uses.size() == 150) {
      return no(3);
    }
    uses.add(new Use(scope, meant));
    beforeTurn = null;
    return yes(uses.size() - 1);
  }

  int about(int t, int what) {
    if (!in(t, things)) {
      return -1;
    }
    return switch (what) {
      case 0 -> things.get(t).scope();
      case 1 -> things.get(t).kind();
      case 2 -> names.get(t).length();
      case 3 -> parts(names.get(t)).size();
      case 4 -> style(names.get(t));
      case 5 -> pattern(names.get(t));
      case 6 -> (int) uses.stream().filter(u -> u.thing() == t).count();
      default -> -1;
    };
  }

  int name(int t, int i) {
    if (!in(t, things) || i < 0 || i >= names.get(t).length()) {
      throw new NoSuchElementException();
    }
    return names.get(t).charAt(i);
  }

  String nameOf(int t) {
    return names.get(t);
  }

  int means(int u, int what) {
    if (!in(u, uses) || what < 0 || what > 1) {
      return -1;
    }
    return what == 0 ? uses.get(u).scope() : uses.get(u).thing();
  }

  int find(int scope, int n) {
    if (!in(scope, around)) {
      return no(1);
    }
    String name = take(n);
    return isName(name) ? yes(resolve(scope, name, names)) : no(2);
  }

  private static List<String> parts(String name) {
    List<String> all = new ArrayList<>();
    for (String part : name.split(CUTS)) {
      if (!part.isEmpty()) {
        all.add(part.toLowerCase());
      }
    }
    return all;
  }

  private static int style(String name) {
    boolean line = name.contains("_");
    if (line && name.equals(name.toLowerCase())) {
      return 2;
    }
    if (line && name.equals(name.toUpperCase())) {
      return 3;
    }
    return Character.isUpperCase(name.replaceAll("[^A-Za-z]", "").charAt(0)) ? 1 : 0;
  }

  private static String written(List<String> parts, int style) {
    if (style >= 2) {
      String text = String.join("_", parts);
      return style == 3 ? text.toUpperCase() : text;
    }
    StringBuilder text = new StringBuilder();
    for (int i = 0; i < parts.size(); i++) {
      String part = parts.get(i);
      boolean great = style == 1 || i > 0;
      text.append(great ? part.substring(0, 1).toUpperCase() + part.substring(1) : part);
    }
    return text.toString();
  }

  private int pattern(String name) {
    int pattern = 0;
    List<String> parts = parts(name);
    for (String part : parts.subList(0, Math.min(4, parts.size()))) {
      int w = words.indexOf(part);
      pattern = 16 * pattern + (w < 0 ? 0 : Integer.lowestOneBit(roles.get(w)));
    }
    return pattern;
  }

  int word(int itsRoles, int n) {
    if (itsRoles < 0 || itsRoles > 15) {
      return no(2);
    }
    String word = take(n);
    if (word == null || !word.matches("[a-z]{1,12}")) {
      return no(2);
    }
    if (words.contains(word)) {
      return no(4);
    }
    if (words.size() == 60) {
      return no(3);
    }
    words.add(word);
    roles.add(itsRoles);
    longs.add(-1);
    return yes(words.size() - 1);
  }

  boolean shorts(int w, int other) {
    if (!in(w, words) || other != -1 && !in(other, words) || w == other) {
      no(1);
      return false;
    }
    longs.set(w, other);
    yes(0);
    return true;
  }

  boolean alike(int one, int other) {
    if (!in(one, words) || !in(other, words)) {
      no(1);
      return false;
    }
    alikes.add(List.of(one, other));
    yes(0);
    return true;
  }

  private Set<Integer> group(int w) {
    Set<Integer> group = new HashSet<>(List.of(w));
    boolean grew = true;
    while (grew) {
      grew = false;
      for (List<Integer> pair : alikes) {
        if (group.contains(pair.get(0)) || group.contains(pair.get(1))) {
          grew |= group.addAll(pair);
        }
      }
    }
    return group;
  }

  private String opened(String part) {
    String open = part;
    for (int i = 0; i < 60; i++) {
      int w = words.indexOf(open);
      if (w < 0 || longs.get(w) == -1) {
        break;
      }
      open = words.get(longs.get(w));
    }
    return open;
  }

  private Map<String, Integer> used() {
    Map<String, Integer> used = new HashMap<>();
    for (String name : names) {
      for (String part : parts(name)) {
        used.merge(opened(part), 1, Integer::sum);
      }
    }
    return used;
  }

  private int head(int w, Map<String, Integer> used) {
    int head = -1;
    for (int i = 0; i < words.size(); i++) {
      if (group(w).contains(i) && (head < 0
          || used.getOrDefault(words.get(i), 0) > used.getOrDefault(words.get(head), 0))) {
        head = i;
      }
    }
    return head;
  }

  int told(int w, int what) {
    if (!in(w, words)) {
      return -1;
    }
    return switch (what) {
      case 0 -> roles.get(w);
      case 1 -> longs.get(w);
      case 2 -> used().getOrDefault(words.get(w), 0);
      case 3 -> head(w, used());
      case 4 -> group(w).size();
      default -> -1;
    };
  }

  int part(int t, int i) {
    if (!in(t, things) || !in(i, parts(names.get(t)))) {
      return -1;
    }
    int w = words.indexOf(parts(names.get(t)).get(i));
    return w < 0 ? -2 : w;
  }

  int way(int kind) {
    if (kind < 0 || kind > 2) {
      return -1;
    }
    TreeMap<Integer, Integer> often = new TreeMap<>();
    for (int t = 0; t < things.size(); t++) {
      if (things.get(t).kind() == kind) {
        often.merge(pattern(names.get(t)), 1, Integer::sum);
      }
    }
    int way = -2;
    for (int pattern : often.keySet()) {
      if (way == -2 || often.get(pattern) > often.get(way)) {
        way = pattern;
      }
    }
    return way;
  }

  int odd(int kind) {
    if (kind < 0 || kind > 2) {
      return -1;
    }
    int odds = 0;
    for (int t = 0; t < things.size(); t++) {
      odds += things.get(t).kind() == kind ? isOdd(t) : 0;
    }
    return odds;
  }

  int isOdd(int t) {
    if (!in(t, things)) {
      return -1;
    }
    return pattern(names.get(t)) == way(things.get(t).kind()) ? 0 : 1;
  }

  int mixed() {
    Map<String, Integer> used = used();
    Set<Set<Integer>> groups = new HashSet<>();
    for (int w = 0; w < words.size(); w++) {
      groups.add(group(w));
    }
    int mixed = 0;
    for (Set<Integer> group : groups) {
      mixed += group.stream().filter(w -> used.containsKey(words.get(w))).count() > 1 ? 1 : 0;
    }
    return mixed;
  }

  int strange() {
    int strange = 0;
    for (String name : names) {
      for (String part : parts(name)) {
        strange += !words.contains(part) && !part.matches("[0-9]+") ? 1 : 0;
      }
    }
    return strange;
  }

  /** The offer that isn't the thing's name, or null. */
  private String offered(int t, Map<String, Integer> used) {
    List<String> better = new ArrayList<>();
    for (String part : parts(names.get(t))) {
      String open = opened(part);
      int w = words.indexOf(open);
      better.add(w < 0 ? open : words.get(head(w, used)));
    }
    String offer = written(better, style(names.get(t)));
    return isName(offer) && !offer.equals(names.get(t)) ? offer : null;
  }

  int offer(int t) {
    if (!in(t, things)) {
      return no(1);
    }
    String offer = offered(t, used());
    if (offer == null) {
      return yes(-2);
    }
    out = offer;
    return yes(out.length());
  }

  int out(int i) {
    if (i < 0 || i >= out.length()) {
      throw new NoSuchElementException();
    }
    return out.charAt(i);
  }

  int rename(int t, int n) {
    if (!in(t, things)) {
      return no(1);
    }
    String name = take(n);
    if (!isName(name)) {
      return no(2);
    }
    renames.put(t, name);
    return yes(renames.size());
  }

  int renames() {
    renames.clear();
    Map<String, Integer> used = used();
    for (int t = 0; t < things.size(); t++) {
      String offer = offered(t, used);
      if (offer != null) {
        renames.put(t, offer);
      }
    }
    return renames.size();
  }

  int none() {
    int were = renames.size();
    renames.clear();
    return were;
  }

  private List<String> then(Map<Integer, String> made) {
    List<String> then = new ArrayList<>(names);
    made.forEach(then::set);
    return then;
  }

  private int hinders(Map<Integer, String> made) {
    List<String> then = then(made);
    Set<List<Object>> seen = new HashSet<>();
    for (int t = 0; t < things.size(); t++) {
      if (!seen.add(List.of(things.get(t).scope(), then.get(t)))) {
        return t;
      }
    }
    for (int u = 0; u < uses.size(); u++) {
      int meant = uses.get(u).thing();
      if (resolve(uses.get(u).scope(), then.get(meant), then) != meant) {
        return 1000 + u;
      }
    }
    return -2;
  }

  int hinders() {
    return hinders(renames);
  }

  int turn() {
    if (hinders() != -2) {
      return no(5);
    }
    beforeTurn = new ArrayList<>(names);
    turned = renames.size();
    renames.forEach(names::set);
    renames.clear();
    return yes(turned);
  }

  int back() {
    if (beforeTurn == null) {
      return no(6);
    }
    names.clear();
    names.addAll(beforeTurn);
    beforeTurn = null;
    return yes(turned);
  }

  int keep() {
    TreeMap<Integer, String> taken = new TreeMap<>();
    for (int t : renames.keySet()) {
      taken.put(t, renames.get(t));
      if (hinders(taken) != -2) {
        taken.remove(t);
      }
    }
    renames.clear();
    renames.putAll(taken);
    return renames.size();
  }

  int count(int what) {
    return switch (what) {
      case 0 -> around.size();
      case 1 -> things.size();
      case 2 -> uses.size();
      case 3 -> words.size();
      case 4 -> renames.size();
      case 5 -> out.length();
      case 6 -> tape.length();
      default -> -1;
    };
  }

  int trouble() {
    return trouble;
  }
}
