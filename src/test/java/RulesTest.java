import java.lang.reflect.Array;
import java.lang.reflect.Field;
import java.lang.reflect.InvocationTargetException;
import java.lang.reflect.Method;
import java.lang.reflect.Modifier;
import java.nio.file.Files;
import java.nio.file.Path;
import java.util.Arrays;
import java.util.Comparator;
import java.util.IdentityHashMap;
import java.util.Map;
import java.util.NoSuchElementException;
import java.util.Random;
import java.util.Set;
import java.util.TreeSet;
import java.util.regex.Matcher;
import java.util.regex.Pattern;

/** The face as the document has it, and what can be seen of LANGUAGE.md's rules from outside. */
public final class RulesTest {
  private static final String[] FACE = {
      "int feed(int,int,int,int,int)", "int scope(int)", "int thing(int,int,int)", "int use(int,int)",
      "int about(int,int)", "int name(int,int)", "int means(int,int)", "int find(int,int)",
      "int word(int,int)", "boolean shorts(int,int)", "boolean alike(int,int)", "int told(int,int)",
      "int part(int,int)", "int way(int)", "int odd(int)", "int isOdd(int)", "int mixed()",
      "int strange()", "int offer(int)", "int out(int)", "int rename(int,int)", "int renames()",
      "int none()", "int hinders()", "int turn()", "int back()", "int keep()", "int count(int)",
      "int trouble()"};
  private static final String[] FORBIDDEN = {"\\btry\\b", "\\bcatch\\b", "\\bfinally\\b", "->", "::",
      "\\bassert\\b", "\\bsynchronized\\b", "\\binstanceof\\b", "\\bSystem\\b", "\\bpackage\\b",
      "Exact\\b", "\\bnull\\b", "\\bprotected\\b", "\\bvar\\b", "\\bstatic \\{", "\\bObject\\b"};
  private static final Method[] METHODS = Arrays.stream(NameHouse.class.getDeclaredMethods())
      .filter(m -> Modifier.isPublic(m.getModifiers()))
      .sorted(Comparator.comparing(Method::getName)).toArray(Method[]::new);
  private static final Due due = new Due("RulesTest");

  public static void main(String[] args) throws Exception {
    face();
    members();
    source();
    room();
    anyCall();
    due.end();
  }

  private static String shown(Method m) {
    StringBuilder text = new StringBuilder(m.getReturnType().getName() + " " + m.getName() + "(");
    for (int i = 0; i < m.getParameterCount(); i++) {
      text.append(i == 0 ? "" : ",").append(m.getParameterTypes()[i].getName());
    }
    return text.append(')').toString();
  }

  private static void face() {
    Set<String> methods = new TreeSet<>();
    for (Method m : NameHouse.class.getDeclaredMethods()) {
      if (!Modifier.isPrivate(m.getModifiers())) {
        methods.add(shown(m));
      }
    }
    due.is("rule 1: methods", methods.toString(), new TreeSet<>(Arrays.asList(FACE)).toString());
    due.is("rule 1: constructors", NameHouse.class.getConstructors().length, 1);
    due.is("rule 1: public and final", NameHouse.class.getModifiers(),
        Modifier.PUBLIC | Modifier.FINAL);
  }

  private static void members() {
    Set<String> publics = new TreeSet<>();
    for (Field f : NameHouse.class.getDeclaredFields()) {
      if (!Modifier.isPrivate(f.getModifiers())) {
        publics.add(f.getName());
      }
    }
    due.is("rule 1: fields", publics.toString(), "[NONE]");
    Set<String> faceNames = new TreeSet<>();
    for (Method m : NameHouse.class.getMethods()) {
      faceNames.add(m.getName());
    }
    int doubles = 0;
    for (Method m : NameHouse.class.getDeclaredMethods()) {
      doubles += Modifier.isPrivate(m.getModifiers()) && faceNames.contains(m.getName()) ? 1 : 0;
    }
    due.is("rule 1: private methods by public names", doubles, 0);
    due.is("rule 11: classes", NameHouse.class.getDeclaredClasses().length < 12, true);
    small(NameHouse.class);
    for (Class<?> c : NameHouse.class.getDeclaredClasses()) {
      small(c);
      due.is("rule 1: static " + c.getName(), Modifier.isStatic(c.getModifiers()), true);
      for (Method m : c.getDeclaredMethods()) {
        due.is("rule 1: " + m.getName() + " is not of the face", faceNames.contains(m.getName()), false);
      }
    }
  }

  private static void small(Class<?> c) {
    long fields = Arrays.stream(c.getDeclaredFields())
        .filter(f -> !Modifier.isStatic(f.getModifiers())).count();
    due.is("rule 11: fields of " + c.getName(), fields <= 20, true);
    for (Method m : c.getDeclaredMethods()) {
      due.is("rule 11: parameters of " + m.getName(), m.getParameterCount() <= 7, true);
    }
  }

  private static void source() throws Exception {
    String text = Files.readString(Path.of("src/main/java/NameHouse.java"));
    String code = text.replaceAll("(?s)/\\*.*?\\*/", "").replaceAll("//[^\n]*", "");
    for (String word : FORBIDDEN) {
      due.is("rules: " + word, Pattern.compile(word).matcher(code).find(), false);
    }
    due.is("rule 4: imports", count(code, "\\bimport\\b"), 1);
    due.is("rule 4: qualified names", count(code, "\\bjavax?\\."), 1);
    int statics = count(code, "static (?!final )[a-z]+(\\[\\])* \\w+( =|;)");
    due.is("rule 5: static fields that aren't final", statics, 0);
    due.is("rule 6: throws", count(code, "\\bthrow\\b"), 2);
    due.is("rule 11: methods of sixty lines", count(code, linesWithin(60)), 0);
    due.is("rule 11: methods of twenty lines are seen", count(code, linesWithin(20)) > 0, true);
    due.is("signs 1 to 127", text.chars().allMatch(c -> c >= 1 && c <= 127), true);
  }

  /** A method, of the class or of one inside it, with so many lines or more between its braces. */
  private static String linesWithin(int lines) {
    return "(?m)^( {4}| {8})(?=\\S)(?!.*\\bclass\\b).*\\{\n(?:(?!\\1\\}\n).*\n){" + lines + "}";
  }

  private static int count(String code, String pattern) {
    Matcher m = Pattern.compile(pattern).matcher(code);
    int found = 0;
    while (m.find()) {
      found++;
    }
    return found;
  }

  /** What one object takes of the room, and that calls take no more. */
  private static void room() throws Exception {
    House h = new House();
    long[] fresh = size(h.bare());
    for (int i = 0; i < 20; i++) {
      h.word(i % 16, "w" + (char) ('a' + i));
      h.thing(0, i % 3, "w" + (char) ('a' + i) + "_Xy");
      h.use(0, "w" + (char) ('a' + i) + "_Xy");
      h.renames();
      h.keep();
      h.turn();
      h.back();
    }
    long[] later = size(h.bare());
    due.is("room: objects", fresh[0] < 1000, true);
    due.is("room: fields and elements", fresh[1] < 20000, true);
    due.is("room: objects later", later[0], fresh[0]);
    due.is("room: fields and elements later", later[1], fresh[1]);
  }

  /** Rule 7, in any state and past the 512th call too: only name and out throw, and only what they may. */
  private static void anyCall() throws Exception {
    int[] edges = {0, 1, 2, 3, 15, 16, 19, 20, 24, 59, 60, 79, 80, 149, 150, 200, 201, -1, -2,
        Integer.MAX_VALUE, Integer.MIN_VALUE};
    Random random = new Random(7);
    int thrown = 0;
    for (int run = 0; run < 20; run++) {
      NameHouse house = new NameHouse();
      for (int call = 0; call < 3000; call++) {
        Method m = METHODS[random.nextInt(METHODS.length)];
        Object[] numbers = new Object[m.getParameterCount()];
        boolean texts = m.getName().equals("feed");
        for (int i = 0; i < numbers.length; i++) {
          numbers[i] = texts ? 0x61616161 + 0x01010101 * random.nextInt(26)
              : random.nextInt(8) == 0 ? edges[random.nextInt(edges.length)] : random.nextInt(13);
        }
        thrown += throwsWrong(house, m, numbers) ? 1 : 0;
      }
    }
    due.is("rule 7: calls that threw what they may not", thrown, 0);
  }

  private static boolean throwsWrong(NameHouse house, Method m, Object[] numbers) throws Exception {
    try {
      m.invoke(house, numbers);
      return false;
    } catch (InvocationTargetException e) {
      boolean may = m.getName().equals("name") || m.getName().equals("out");
      return !may || e.getCause().getClass() != NoSuchElementException.class;
    }
  }

  private static long[] size(Object root) throws Exception {
    Map<Object, Boolean> seen = new IdentityHashMap<>();
    long[] sum = new long[2];
    add(root, seen, sum);
    return sum;
  }

  private static void add(Object o, Map<Object, Boolean> seen, long[] sum) throws Exception {
    if (o == null || seen.put(o, true) != null) {
      return;
    }
    sum[0]++;
    if (o.getClass().isArray()) {
      sum[1] += Array.getLength(o);
      for (int i = 0; i < Array.getLength(o) && !o.getClass().getComponentType().isPrimitive(); i++) {
        add(Array.get(o, i), seen, sum);
      }
      return;
    }
    for (Field f : o.getClass().getDeclaredFields()) {
      if (!Modifier.isStatic(f.getModifiers())) {
        sum[1]++;
        f.setAccessible(true);
        if (!f.getType().isPrimitive()) {
          add(f.get(o), seen, sum);
        }
      }
    }
  }
}
