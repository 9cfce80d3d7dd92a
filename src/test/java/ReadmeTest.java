import java.io.IOException;
import java.lang.reflect.InvocationTargetException;
import java.lang.reflect.Method;
import java.lang.reflect.Modifier;
import java.nio.file.Files;
import java.nio.file.Path;
import java.util.ArrayList;
import java.util.Arrays;
import java.util.List;
import java.util.Set;
import java.util.TreeSet;
import java.util.regex.Matcher;
import java.util.regex.Pattern;

/** The calls that README.md shows, made line by line, have the answers that it tells behind them. */
public final class ReadmeTest {
  private static final Pattern BLOCK = Pattern.compile("```java\n(.*?)```", Pattern.DOTALL);
  private static final Pattern FED = Pattern.compile("feed\\(house, \"(\\w+)\"\\);");
  private static final Pattern CALL =
      Pattern.compile("house\\.(\\w+)\\(([-\\d, ]*)\\); +// (-?\\w+)(?:[ ,].*)?");
  private static final Due due = new Due("ReadmeTest");

  private final NameHouse house = new NameHouse();
  private final Set<String> called = new TreeSet<>();

  public static void main(String[] args) throws Exception {
    List<String> blocks = blocks();
    due.is("blocks of code", blocks.size(), 2);
    due.is("feed as it is here", own().contains(blocks.get(0)), true);
    ReadmeTest test = new ReadmeTest();
    for (String line : blocks.get(1).split("\n")) {
      test.line(line);
    }
    due.is("calls that are shown", test.called.toString(), face().toString());
    due.end();
  }

  private static List<String> blocks() throws IOException {
    List<String> blocks = new ArrayList<>();
    Matcher m = BLOCK.matcher(Files.readString(Path.of("README.md")));
    while (m.find()) {
      blocks.add(m.group(1));
    }
    return blocks;
  }

  /** This file's own text, its lines as far left as those of the page. */
  private static String own() throws IOException {
    return Files.readString(Path.of("src/test/java/ReadmeTest.java")).replaceAll("(?m)^  ", "");
  }

  private static Set<String> face() {
    Set<String> names = new TreeSet<>();
    for (Method m : NameHouse.class.getDeclaredMethods()) {
      if (Modifier.isPublic(m.getModifiers())) {
        names.add(m.getName());
      }
    }
    return names;
  }

  private void line(String line) throws ReflectiveOperationException {
    Matcher fed = FED.matcher(line);
    Matcher call = CALL.matcher(line);
    if (fed.matches()) {
      called.add("feed");
      feed(house, fed.group(1));
    } else if (call.matches()) {
      called.add(call.group(1));
      due.is(line, answer(call.group(1), call.group(2)), call.group(3));
    } else {
      boolean other = line.isEmpty() || line.startsWith("// ")
          || line.equals("NameHouse house = new NameHouse();");
      due.is("no call: " + line, other, true);
    }
  }

  private String answer(String name, String numbers) throws ReflectiveOperationException {
    Object[] given = numbers.isEmpty() ? new Object[0]
        : Arrays.stream(numbers.split(", ")).map(Integer::valueOf).toArray();
    Class<?>[] types = new Class<?>[given.length];
    Arrays.fill(types, int.class);
    try {
      return NameHouse.class.getMethod(name, types).invoke(house, given).toString();
    } catch (InvocationTargetException e) {
      return e.getCause().getClass().getSimpleName();
    }
  }

  static void feed(NameHouse house, String text) {
    for (int from = 0; from < text.length(); from += 20) {
      int[] five = new int[5];
      for (int i = from; i < from + 20; i++) {
        int b = i < text.length() ? text.charAt(i) : ' ';
        five[(i - from) / 4] = five[(i - from) / 4] << 8 | b;
      }
      house.feed(five[0], five[1], five[2], five[3], five[4]);
    }
  }
}
