import java.io.IOException;
import java.lang.reflect.Constructor;
import java.lang.reflect.Field;
import java.lang.reflect.Method;
import java.lang.reflect.Modifier;
import java.nio.charset.StandardCharsets;
import java.nio.file.Files;
import java.nio.file.Path;
import java.util.HashSet;
import java.util.Set;
import java.util.TreeSet;
import java.util.regex.Pattern;

/** The face of the class, as the document gives it, and what of LANGUAGE.md a text or the class itself shows. */
public final class MaxGardenFace {
  private static final String[] FACE = {
    "int poly() throws IllegalStateException",
    "int term(int, int, int, int) throws IndexOutOfBoundsException, IllegalArgumentException",
    "int drop(int, int, int) throws IndexOutOfBoundsException, NoSuchElementException",
    "int terms(int) throws IndexOutOfBoundsException",
    "int coefficient(int, int, int) throws IndexOutOfBoundsException, NoSuchElementException",
    "int value(int, int, int)"
        + " throws IndexOutOfBoundsException, IllegalArgumentException, NoSuchElementException",
    "int greatest(int, int, int) throws IndexOutOfBoundsException, IllegalArgumentException",
    "int sum(int, int) throws IndexOutOfBoundsException, IllegalStateException",
    "int product(int, int)"
        + " throws IndexOutOfBoundsException, IllegalStateException, UnsupportedOperationException",
    "boolean isNeeded(int, int, int) throws IndexOutOfBoundsException, NoSuchElementException",
    "int needed(int) throws IndexOutOfBoundsException",
    "boolean isSame(int, int) throws IndexOutOfBoundsException",
    "int roots(int) throws IndexOutOfBoundsException, UnsupportedOperationException",
    "int root(int, int, char)"
        + " throws IndexOutOfBoundsException, UnsupportedOperationException, IllegalArgumentException, NoSuchElementException",
    "int turnsAnew(int) throws IndexOutOfBoundsException, UnsupportedOperationException",
    "int corners(int) throws IndexOutOfBoundsException, UnsupportedOperationException",
    "int corner(int, int, char)"
        + " throws IndexOutOfBoundsException, UnsupportedOperationException, IllegalArgumentException, NoSuchElementException",
    "int weight(int, int, int)"
        + " throws IndexOutOfBoundsException, UnsupportedOperationException, NoSuchElementException",
    "boolean isBalanced(int, int)"
        + " throws IndexOutOfBoundsException, UnsupportedOperationException, NoSuchElementException",
    "int rays(int) throws IndexOutOfBoundsException, UnsupportedOperationException",
    "int links(int) throws IndexOutOfBoundsException, UnsupportedOperationException",
    "int genus(int) throws IndexOutOfBoundsException, UnsupportedOperationException",
    "int area(int) throws IndexOutOfBoundsException",
    "int areaAnew(int) throws IndexOutOfBoundsException, UnsupportedOperationException",
    "int meet(int, int) throws IndexOutOfBoundsException, UnsupportedOperationException",
    "int meetAnew(int, int) throws IndexOutOfBoundsException, UnsupportedOperationException",
    "int matrix(int) throws IllegalArgumentException, IllegalStateException",
    "int set(int, int, int, int) throws IndexOutOfBoundsException, IllegalArgumentException",
    "int clear(int, int, int) throws IndexOutOfBoundsException, IllegalArgumentException",
    "int entry(int, int, int)"
        + " throws IndexOutOfBoundsException, IllegalArgumentException, NoSuchElementException",
    "int plus(int, int)"
        + " throws IndexOutOfBoundsException, UnsupportedOperationException, IllegalStateException",
    "int times(int, int)"
        + " throws IndexOutOfBoundsException, UnsupportedOperationException, IllegalStateException",
    "int star(int) throws IndexOutOfBoundsException, UnsupportedOperationException, IllegalStateException",
    "int mean(int, boolean) throws IndexOutOfBoundsException, NoSuchElementException",
    "int meanAnew(int, boolean) throws IndexOutOfBoundsException, NoSuchElementException",
    "int critical(int) throws IndexOutOfBoundsException",
    "int eigen(int, int) throws IndexOutOfBoundsException, IllegalArgumentException, NoSuchElementException",
    "int assignment(int) throws IndexOutOfBoundsException, NoSuchElementException",
    "int assigned(int, int)"
        + " throws IndexOutOfBoundsException, IllegalArgumentException, NoSuchElementException",
    "boolean isSingular(int) throws IndexOutOfBoundsException",
    "int rank(int) throws IndexOutOfBoundsException",
    "int unlike(int) throws IndexOutOfBoundsException, UnsupportedOperationException, NoSuchElementException",
    "boolean isHeld(int, int, int)"
        + " throws IndexOutOfBoundsException, UnsupportedOperationException, IllegalArgumentException",
    "int begin(int) throws IndexOutOfBoundsException",
    "int go(int) throws IllegalStateException, IllegalArgumentException, UnsupportedOperationException",
    "int delay(int, int)"
        + " throws IllegalStateException, IllegalArgumentException, UnsupportedOperationException",
    "int time(int) throws IllegalStateException, IllegalArgumentException",
    "int late(int) throws IllegalStateException, IllegalArgumentException",
    "int write(int) throws IndexOutOfBoundsException",
    "char sign(int) throws NoSuchElementException",
    "long print()",
    "float neededShare(int) throws IndexOutOfBoundsException, ArithmeticException",
    "double meanOf(int) throws IndexOutOfBoundsException, NoSuchElementException",
    "boolean isSound()"};

  /** Words that the language of the program has not, or that this program does without. */
  private static final String[] RULED_OUT = {
    "->", "::", "\\bfinally\\b", "\\bsynchronized\\b", "\\bassert\\b", "\\btry\\b", "\\bcatch\\b",
    "\\bprotected\\b", "Exact\\b", "\\bequals\\s*\\(", "\\bhashCode\\b", "\\btoString\\b",
    "\\bSystem\\.(?!arraycopy\\b)", "\\bRandom\\b", "\\bThread\\b", "\\bstatic\\s*\\{", "\\bpackage\\b",
    "\\bObject\\b", "\\[\\]\\s*\\[", "\\bString\\b", "\\bMath\\.(?!max\\b|min\\b|abs\\b)",
    "\\bInteger\\.(?!bitCount\\b)", "\\bLong\\.", "\\bArrays\\.(?!fill\\b|\\s*;)"};

  private static int wrong = 0;

  private static void due(boolean isDue, String what) {
    if (!isDue) {
      wrong++;
      System.out.println("face: " + what);
    }
  }

  public static void main(String[] arguments) throws IOException {
    members();
    nested();
    text();
    System.out.println("face: " + wrong + " wrong");
    if (wrong != 0) {
      System.exit(1);
    }
  }

  private static String signature(Method method) {
    StringBuilder text = new StringBuilder();
    text.append(method.getReturnType().getSimpleName()).append(' ').append(method.getName()).append('(');
    for (int k = 0; k < method.getParameterCount(); k++) {
      text.append(k == 0 ? "" : ", ").append(method.getParameterTypes()[k].getSimpleName());
    }
    text.append(')');
    for (int k = 0; k < method.getExceptionTypes().length; k++) {
      text.append(k == 0 ? " throws " : ", ").append(method.getExceptionTypes()[k].getSimpleName());
    }
    return text.toString();
  }

  private static void members() {
    Class<?> garden = MaxGarden.class;
    due(Modifier.isPublic(garden.getModifiers()) && Modifier.isFinal(garden.getModifiers()), "public and final");
    due(garden.getPackageName().isEmpty(), "no package");
    due(garden.getSuperclass() == Object.class && garden.getInterfaces().length == 0, "nothing above");
    Constructor<?>[] made = garden.getDeclaredConstructors();
    due(made.length == 1 && Modifier.isPublic(made[0].getModifiers()) && made[0].getParameterCount() == 0
        && made[0].getExceptionTypes().length == 0, "one public constructor without parameters");
    Set<String> want = new TreeSet<>(Set.of(FACE));
    Set<String> names = new HashSet<>();
    for (Method method : garden.getDeclaredMethods()) {
      if (Modifier.isPublic(method.getModifiers())) {
        due(want.remove(signature(method)), "not in the document: " + signature(method));
        due(!Modifier.isStatic(method.getModifiers()), "static: " + method.getName());
        names.add(method.getName());
      }
    }
    due(want.isEmpty(), "missing: " + want);
    privates(garden, names);
    for (Class<?> inner : garden.getDeclaredClasses()) {
      privates(inner, names);
    }
  }

  private static void privates(Class<?> owner, Set<String> names) {
    int fields = 0;
    for (Method method : owner.getDeclaredMethods()) {
      boolean isFace = owner == MaxGarden.class && Modifier.isPublic(method.getModifiers());
      due(isFace || Modifier.isPrivate(method.getModifiers()), "not private: " + method);
      due(isFace || !names.contains(method.getName()), "bears the name of a public one: " + method);
      due(method.getParameterCount() <= 7, "too many parameters: " + method);
    }
    for (Field field : owner.getDeclaredFields()) {
      due(Modifier.isPrivate(field.getModifiers()), "not private: " + field);
      due(!Modifier.isStatic(field.getModifiers()) || Modifier.isFinal(field.getModifiers()), "static: " + field);
      fields += Modifier.isStatic(field.getModifiers()) ? 0 : 1;
    }
    due(fields <= 20, "too many fields: " + owner);
  }

  private static void nested() {
    Class<?>[] inner = MaxGarden.class.getDeclaredClasses();
    due(inner.length <= 11, "too many classes");
    for (Class<?> each : inner) {
      due(Modifier.isStatic(each.getModifiers()) && Modifier.isPrivate(each.getModifiers()), "not private: " + each);
    }
  }

  private static void text() throws IOException {
    String root = System.getProperty("project.root", ".");
    String text = Files.readString(Path.of(root, "src/main/java/MaxGarden.java"), StandardCharsets.UTF_8);
    due(text.chars().allMatch(sign -> sign == 10 || sign >= 32 && sign < 127), "plain signs alone");
    String code = text.replaceAll("(?s)/\\*.*?\\*/", " ").replaceAll("//[^\\n]*", " ");
    code = code.replaceAll("\"[^\"\\n]*\"", "\"\"");
    for (String word : RULED_OUT) {
      due(!Pattern.compile(word).matcher(code).find(), "ruled out: " + word);
    }
    due(!Pattern.compile("\"\\s*\\+|\\+\\s*\"").matcher(code).find(), "texts joined by +");
    lengths(text.split("\n"));
  }

  private static void lengths(String[] lines) {
    int start = -1;
    for (int k = 0; k < lines.length; k++) {
      if (lines[k].matches(" {2}( {2})?(public|private)[^;=]*\\(.*") && !lines[k].contains(" class ")) {
        start = k;
      }
      if (start >= 0 && lines[k].matches(" {2}( {2})?\\}")) {
        due(k - start < 60, "a long method at line " + (start + 1));
        start = -1;
      }
      due(lines[k].length() <= 120, "a long line: " + (k + 1));
    }
  }
}
