import java.io.IOException;
import java.lang.reflect.Constructor;
import java.lang.reflect.Field;
import java.lang.reflect.Method;
import java.lang.reflect.Modifier;
import java.nio.file.Files;
import java.nio.file.Path;
import java.util.ArrayList;
import java.util.Arrays;
import java.util.List;
import java.util.Set;
import java.util.TreeSet;
import java.util.regex.Matcher;
import java.util.regex.Pattern;
import java.util.stream.Collectors;

/** Those rules of LANGUAGE.md that the words of the source and the face can tell; see LanguageCalls for others. */
public final class LanguageRules {
  private static final Path SOURCE = Path.of("src/main/java/SpoonSet.java");
  private static final Path DOCUMENT = Path.of("../shared/DOC.md");
  private static int broken = 0;

  private static void rule(int number, boolean kept, String what) {
    if (kept) return;
    broken++;
    System.out.println("rule " + number + ": " + what);
  }

  public static void main(String[] args) throws IOException {
    String source = Files.readString(SOURCE);
    String bare = source.replaceAll("(?s)/\\*.*?\\*/", "").replaceAll("//[^\n]*", "").replaceAll("\"[^\"\n]*\"", "\"\"").replaceAll("'[^'\n]+'", "' '");
    face();
    classes();
    words(bare);
    fields();
    System.out.println(broken == 0 ? "the rules that are looked at are kept" : broken + " rules are broken");
    if (broken != 0) System.exit(1);
  }

  /** The face is the document's, read from the document. */
  private static void face() throws IOException {
    String document = Files.readString(DOCUMENT);
    Matcher block = Pattern.compile("(?s)```java\n(.*?)```").matcher(document);
    rule(1, block.find(), "the document has no face");
    Set<String> due = new TreeSet<>();
    Matcher line = Pattern.compile("public (int|boolean) (\\w+)\\(([^)]*)\\);").matcher(block.group(1));
    while (line.find()) {
      String types = Arrays.stream(line.group(3).split(",")).map(p -> p.trim().split(" ")[0]).collect(Collectors.joining(","));
      due.add(line.group(1) + " " + line.group(2) + "(" + types + ")");
    }
    rule(1, due.size() == 57, "the document's face has " + due.size() + " methods");
    Set<String> shown = new TreeSet<>();
    Set<String> names = new TreeSet<>();
    for (Method m : SpoonSet.class.getDeclaredMethods()) {
      if (Modifier.isPrivate(m.getModifiers())) continue;
      rule(1, Modifier.isPublic(m.getModifiers()), m + " is neither public nor private");
      shown.add(m.getReturnType() + " " + m.getName() + "(" + Arrays.stream(m.getParameterTypes()).map(Class::getName).collect(Collectors.joining(",")) + ")");
      names.add(m.getName());
    }
    rule(1, due.equals(shown), "the face is " + shown + ", due is " + due);
    for (Class<?> c : all()) {
      for (Method m : c.getDeclaredMethods()) {
        boolean publicOne = c == SpoonSet.class && Modifier.isPublic(m.getModifiers());
        rule(1, publicOne || !names.contains(m.getName()), m + " bears a public one's name");
        rule(11, m.getParameterCount() <= 7, m + " has too many parameters");
      }
    }
    for (Constructor<?> c : SpoonSet.class.getDeclaredConstructors()) rule(1, Modifier.isPublic(c.getModifiers()) && c.getParameterCount() == 0, c.toString());
    rule(1, Modifier.isFinal(SpoonSet.class.getModifiers()), "the class is not final");
  }

  private static List<Class<?>> all() {
    List<Class<?>> all = new ArrayList<>(List.of(SpoonSet.class));
    all.addAll(Arrays.asList(SpoonSet.class.getDeclaredClasses()));
    return all;
  }

  private static void classes() {
    for (Class<?> c : SpoonSet.class.getDeclaredClasses()) {
      rule(2, Modifier.isStatic(c.getModifiers()), c + " is not static");
      rule(1, Modifier.isPrivate(c.getModifiers()), c + " is not private");
      rule(2, c.getDeclaredClasses().length == 0, c + " has classes inside");
    }
    rule(11, all().size() <= 12, all().size() + " classes");
  }

  private static void words(String bare) {
    for (String word : List.of("throw", "throws", "try", "catch", "finally", "synchronized", "assert", "import", "package", "protected", "double", "float", "volatile", "native", "record", "enum", "equals", "hashCode", "toString", "Exact", "static \\{", "Object", "var"))
      rule(6, !Pattern.compile("\\b" + word + (word.endsWith("{") ? "" : "\\b")).matcher(bare).find(), "the word " + word);
    rule(2, !bare.contains("->") && !bare.contains("::"), "a lambda or a reference to a method");
    rule(10, !Pattern.compile("\"\\s*\\+|\\+\\s*\"").matcher(bare).find(), "texts joined by +");
    Matcher library = Pattern.compile("\\b(Math|Integer|Long|System|Arrays|String|StringBuilder)\\.(\\w+)").matcher(bare);
    while (library.find()) rule(4, Set.of("max", "min", "abs", "bitCount", "arraycopy").contains(library.group(2)), library.group());
    rule(4, bare.chars().allMatch(c -> c < 128), "a sign above 127");
  }

  private static void fields() {
    for (Class<?> c : all()) {
      int own = 0;
      for (Field f : c.getDeclaredFields()) {
        if (!Modifier.isStatic(f.getModifiers())) {
          own++;
          rule(1, c != SpoonSet.class || Modifier.isPrivate(f.getModifiers()), f + " is not private");
          continue;
        }
        rule(5, Modifier.isFinal(f.getModifiers()), f + " is not final");
        rule(5, f.getType() == int.class || f.getType() == String.class || f.getType() == int[].class, f + " is of another type");
        rule(1, c != SpoonSet.class || Modifier.isPrivate(f.getModifiers()) || f.getName().equals("NONE"), f + " is not private");
      }
      rule(11, own <= 20, c + " has " + own + " fields");
    }
  }
}
