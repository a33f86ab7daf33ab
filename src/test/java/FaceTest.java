import java.io.IOException;
import java.lang.reflect.Constructor;
import java.lang.reflect.Field;
import java.lang.reflect.Method;
import java.lang.reflect.Modifier;
import java.nio.file.Files;
import java.nio.file.Path;
import java.util.Arrays;
import java.util.Set;
import java.util.TreeSet;
import java.util.regex.Matcher;
import java.util.regex.Pattern;

// The document's public face, and those rules of LANGUAGE.md that can be seen from outside or in the text.
public final class FaceTest {
  private static final Path SOURCE = Path.of("src", "main", "java", "BlendedPatch.java");
  private static int wrong = 0;

  private static void holds(boolean is, String what) {
    if (!is) { wrong++; System.out.println("does not hold: " + what); }
  }

  private static void face() {
    Set<String> want = new TreeSet<>(Arrays.asList(
        "int cell(int,int,int)", "int sizes(int,int)", "int patch(int,int,int)", "int inside(int,int,int)", "int lies(int,int)",
        "int sets(int,int)", "int draws(int,int)", "int at(int,int,int)", "int blends(int,int,int)", "int worst(int)",
        "int settles(int)", "int whole(int,int,int)", "int rest(int,int,int,int)", "int sums(int,int)", "int keeps(int)",
        "int type(int)", "int clear()", "int reads()", "int back()", "int told(int)", "long digest()"));
    Set<String> got = new TreeSet<>();
    for (Method m : BlendedPatch.class.getDeclaredMethods()) {
      if (Modifier.isPrivate(m.getModifiers()) || m.isSynthetic()) continue;
      StringBuilder s = new StringBuilder(m.getReturnType() + " " + m.getName() + "(");
      for (Class<?> p : m.getParameterTypes()) s.append(s.charAt(s.length() - 1) == '(' ? "" : ",").append(p);
      got.add(s.append(")").toString());
      holds(Modifier.isPublic(m.getModifiers()) && !Modifier.isStatic(m.getModifiers()), "public: " + m);
    }
    holds(got.equals(want), "the methods are " + want + ", not " + got);
    Constructor<?>[] makers = BlendedPatch.class.getDeclaredConstructors();
    holds(makers.length == 1 && makers[0].getParameterCount() == 0 && Modifier.isPublic(makers[0].getModifiers()), "one public constructor");
    int kind = BlendedPatch.class.getModifiers();
    holds(Modifier.isPublic(kind) && Modifier.isFinal(kind), "public final class");
  }

  private static void fields() {
    Set<String> visible = new TreeSet<>();
    for (Field f : BlendedPatch.class.getDeclaredFields()) {
      if (!Modifier.isPrivate(f.getModifiers())) visible.add(f.getName());
      holds(!Modifier.isStatic(f.getModifiers()) || Modifier.isFinal(f.getModifiers()), "static is final: " + f);
    }
    holds(visible.equals(new TreeSet<>(Arrays.asList("NONE", "BAD", "NO", "FULL"))), "the constants, not " + visible);
  }

  private static void inner() {
    Set<String> names = new TreeSet<>();
    for (Method m : BlendedPatch.class.getDeclaredMethods()) if (Modifier.isPublic(m.getModifiers())) names.add(m.getName());
    Class<?>[] classes = BlendedPatch.class.getDeclaredClasses();
    holds(classes.length <= 11, "twelve classes at most");
    for (Class<?> c : classes) {
      holds(Modifier.isStatic(c.getModifiers()) && !Modifier.isPublic(c.getModifiers()), "static, not public: " + c);
      holds(c.getDeclaredFields().length <= 20, "twenty fields at most: " + c);
      for (Method m : c.getDeclaredMethods()) {
        holds(!names.contains(m.getName()), "no name of the face: " + m);
        holds(m.getParameterCount() <= 7, "seven parameters at most: " + m);
      }
    }
  }

  private static void text() throws IOException {
    String code = Files.readString(SOURCE);
    holds(code.chars().allMatch(c -> c < 128), "plain signs alone");
    String bare = code.replaceAll("(?s)/\\*.*?\\*/", " ").replaceAll("//[^\n]*", " ");
    String[] banned = {"\\bpackage\\b", "\\btry\\b", "\\bcatch\\b", "\\bfinally\\b", "\\bassert\\b", "\\bsynchronized\\b", "->", "::",
        "\\bFloat\\b", "\\bDouble\\b", "Exact\\b", "\\bgetClass\\b", "\\bhashCode\\b", "\\btoString\\b", "\\bfloorMod\\b",
        "System\\.(?!arraycopy\\b)", "Math\\.(?!max\\b|min\\b)", "Arrays\\.(?!fill\\b)"};
    for (String b : banned) {
      Matcher m = Pattern.compile(b).matcher(bare);
      holds(!m.find(), "no " + b + " in the source");
    }
    Matcher imports = Pattern.compile("import ([^;]*);").matcher(bare);
    while (imports.find()) holds(imports.group(1).equals("java.util.Arrays"), "import " + imports.group(1));
  }

  public static void main(String[] args) throws IOException {
    face();
    fields();
    inner();
    text();
    System.out.println(wrong == 0 ? "the face is as told" : wrong + " things do not hold");
    if (wrong != 0) System.exit(1);
  }
}
