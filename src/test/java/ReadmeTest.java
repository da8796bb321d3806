import java.lang.reflect.Method;
import java.lang.reflect.Modifier;
import java.nio.file.Files;
import java.nio.file.Path;
import java.util.ArrayList;
import java.util.List;
import java.util.Set;
import java.util.TreeSet;
import java.util.regex.Matcher;
import java.util.regex.Pattern;

/** The run of calls in README.md is answered as it says there, and uses every method. */
public final class ReadmeTest {
  private static final String FIRST_LINE = "Migrator guest = new Migrator();";
  private static final Pattern CALL = Pattern.compile("guest\\.(\\w+)\\(([-0-9, ]*)\\); +// ([-\\w]+)(:.*)?");

  private static final Due due = new Due();

  public static void main(String[] args) throws Exception {
    due.at("README.md");
    List<String> lines = javaLines(Files.readAllLines(Path.of("README.md")));
    due.same("the first line", lines.isEmpty() ? "" : lines.get(0), FIRST_LINE);
    Migrator guest = new Migrator();
    Set<String> used = new TreeSet<>();
    for (int i = 1; i < lines.size(); i++) {
      Matcher call = CALL.matcher(lines.get(i));
      due.is("a call with its answer: " + lines.get(i), call.matches(), true);
      if (call.matches()) {
        used.add(call.group(1));
        due.same(lines.get(i), answer(guest, call.group(1), call.group(2)), call.group(3));
      }
    }
    due.same("the methods used", used.toString(), publicMethods().toString());
    due.end();
  }

  private static List<String> javaLines(List<String> all) {
    int start = all.indexOf("```java") + 1;
    List<String> rest = all.subList(start, all.size());
    int length = rest.indexOf("```");
    return start == 0 || length < 0 ? new ArrayList<>() : rest.subList(0, length);
  }

  private static String answer(Migrator guest, String name, String arguments) throws Exception {
    String[] texts = arguments.isEmpty() ? new String[0] : arguments.split(", ");
    Class<?>[] types = new Class<?>[texts.length];
    Object[] values = new Object[texts.length];
    for (int i = 0; i < texts.length; i++) {
      types[i] = int.class;
      values[i] = Integer.valueOf(texts[i]);
    }
    return String.valueOf(Migrator.class.getMethod(name, types).invoke(guest, values));
  }

  private static Set<String> publicMethods() {
    Set<String> names = new TreeSet<>();
    for (Method m : Migrator.class.getDeclaredMethods()) {
      if (Modifier.isPublic(m.getModifiers())) {
        names.add(m.getName());
      }
    }
    return names;
  }
}
