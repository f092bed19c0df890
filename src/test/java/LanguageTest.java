import java.lang.reflect.Member;
import java.lang.reflect.Modifier;
import java.nio.file.Files;
import java.nio.file.Path;
import java.util.TreeSet;
import java.util.regex.Matcher;
import java.util.regex.Pattern;

/** The face is the document's and no more, and the source holds nothing that LANGUAGE.md rules out. */
public final class LanguageTest {
  private static final String FACE = "letter text board piece of within pieces odds rule behind address meet steady"
      + " falls lots point colour triangle tri area sum even bits bitsOf longBits rack racks racked like list put"
      + " look judge image on count";
  private static final String[] RULED_OUT = {"import ", "package ", "->", "::", "catch", "throw", "finally", "assert",
      "synchronized", "static {", "new Random", "System.out", "System.nano", "System.current", "Float.", "Double.",
      "StrictMath", "Exact(", "protected", "instanceof"};
  private static final int LONGEST_METHOD = 60;
  private static final Due due = new Due();

  public static void main(String[] args) throws Exception {
    face();
    String source = Files.readString(Path.of("src/main/java/CutInCopies.java"));
    for (String part : RULED_OUT) {
      due.is("source holds " + part, source.contains(part) ? 1 : 0, 0);
    }
    due.is("signs above 127", source.chars().filter(sign -> sign > 127).count(), 0);
    longMethods(source);
    library(source);
    due.end();
  }

  private static void face() {
    TreeSet<String> face = new TreeSet<>(java.util.List.of(FACE.split(" ")));
    TreeSet<String> told = new TreeSet<>();
    for (var method : CutInCopies.class.getDeclaredMethods()) {
      if (Modifier.isPublic(method.getModifiers())) {
        told.add(method.getName());
      } else {
        onlyPrivate(method);
        due.is("private method named " + method.getName(), face.contains(method.getName()) ? 1 : 0, 0);
      }
    }
    for (var field : CutInCopies.class.getDeclaredFields()) {
      onlyPrivate(field);
    }
    due.is("methods of the face", told.equals(face) ? 1 : 0, 1);
    due.is("constructors", CutInCopies.class.getDeclaredConstructors().length, 1);
    due.is("classes", CutInCopies.class.getDeclaredClasses().length <= 11 ? 1 : 0, 1);
    members(CutInCopies.class, face);
    for (Class<?> inside : CutInCopies.class.getDeclaredClasses()) {
      due.is(inside + " static", Modifier.isStatic(inside.getModifiers()) ? 1 : 0, 1);
      due.is(inside + " public", Modifier.isPublic(inside.getModifiers()) ? 1 : 0, 0);
      due.is(inside + " fields", inside.getDeclaredFields().length <= 20 ? 1 : 0, 1);
      members(inside, face);
    }
  }

  /** What holds for each class of the file: no state that is static, few parameters, no name of the face hidden. */
  private static void members(Class<?> one, TreeSet<String> face) {
    for (var field : one.getDeclaredFields()) {
      boolean isStatic = Modifier.isStatic(field.getModifiers());
      due.is("static and not final: " + field, isStatic && !Modifier.isFinal(field.getModifiers()) ? 1 : 0, 0);
    }
    for (var method : one.getDeclaredMethods()) {
      boolean hidden = Modifier.isPrivate(method.getModifiers()) && face.contains(method.getName());
      due.is("private by a name of the face: " + method, hidden ? 1 : 0, 0);
      due.is("parameters of " + method, method.getParameterCount() <= 7 ? 1 : 0, 1);
    }
    for (var constructor : one.getDeclaredConstructors()) {
      due.is("parameters of " + constructor, constructor.getParameterCount() <= 7 ? 1 : 0, 1);
    }
  }

  /** The library's functions that are used are among those that LANGUAGE.md lists. */
  private static void library(String source) {
    TreeSet<String> own = new TreeSet<>();
    for (Class<?> inside : CutInCopies.class.getDeclaredClasses()) {
      own.add(inside.getSimpleName());
    }
    String code = source.replaceAll("(?s)/\\*.*?\\*/", "").replaceAll("//.*", "");
    Matcher used = Pattern.compile("\\b([A-Z]\\w*)\\.(\\w+)").matcher(code);
    while (used.find()) {
      boolean listed = own.contains(used.group(1)) || used.group().equals("Math.abs")
          || used.group().equals("System.arraycopy");
      due.is("listed: " + used.group(), listed ? 1 : 0, 1);
    }
    due.is("objects of the library", Pattern.compile("new (Integer|String|StringBuilder|Array)").matcher(code)
        .find() ? 1 : 0, 0);
  }

  private static void onlyPrivate(Member member) {
    if (!member.isSynthetic()) {
      due.is("private " + member.getName(), Modifier.isPrivate(member.getModifiers()) ? 1 : 0, 1);
    }
  }

  /** Methods of the class itself are indented by 2, those of classes inside by 4. */
  private static void longMethods(String source) {
    String[] lines = source.split("\n");
    for (int i = 0; i < lines.length; i++) {
      boolean begins = lines[i].matches(" {2}( {2})?[a-z].*\\) \\{");
      if (begins) {
        String close = lines[i].startsWith("    ") ? "    }" : "  }";
        int end = i;
        while (end < lines.length && !lines[end].equals(close)) {
          end++;
        }
        due.is("long method: " + lines[i].trim(), end - i < LONGEST_METHOD ? 1 : 0, 1);
      }
    }
  }
}
