import java.lang.reflect.Member;
import java.lang.reflect.Modifier;
import java.nio.file.Files;
import java.nio.file.Path;
import java.util.TreeSet;

/** The face is the document's and no more, and the source holds nothing that LANGUAGE.md rules out. */
public final class LanguageTest {
  private static final String FACE = "letter text board piece of within pieces odds rule behind address meet steady"
      + " falls lots point colour triangle tri area sum even bits bitsOf longBits rack racks racked like list put"
      + " look judge image on count";
  private static final String[] RULED_OUT = {"import ", "package ", "->", "::", "catch", "throw", "finally", "assert",
      "synchronized", "static {", "new Random", "System.out", "System.nano", "System.current", "Float.", "Double.",
      "StrictMath", "Exact(", "protected", "instanceof"};
  private static final int LONGEST_METHOD = 60;
  private static final Due due = new Due();

  public static void main(String[] args) throws Exception {
    face();
    String source = Files.readString(Path.of("src/main/java/CutInCopies.java"));
    for (String part : RULED_OUT) {
      due.is("source holds " + part, source.contains(part) ? 1 : 0, 0);
    }
    due.is("signs above 127", source.chars().filter(sign -> sign > 127).count(), 0);
    longMethods(source);
    due.end();
  }

  private static void face() {
    TreeSet<String> face = new TreeSet<>(java.util.List.of(FACE.split(" ")));
    TreeSet<String> told = new TreeSet<>();
    for (var method : CutInCopies.class.getDeclaredMethods()) {
      if (Modifier.isPublic(method.getModifiers())) {
        told.add(method.getName());
      } else {
        onlyPrivate(method);
        due.is("private method named " + method.getName(), face.contains(method.getName()) ? 1 : 0, 0);
      }
    }
    for (var field : CutInCopies.class.getDeclaredFields()) {
      onlyPrivate(field);
    }
    due.is("methods of the face", told.equals(face) ? 1 : 0, 1);
    due.is("constructors", CutInCopies.class.getDeclaredConstructors().length, 1);
    due.is("classes", CutInCopies.class.getDeclaredClasses().length <= 11 ? 1 : 0, 1);
    for (Class<?> inside : CutInCopies.class.getDeclaredClasses()) {
      due.is(inside + " static", Modifier.isStatic(inside.getModifiers()) ? 1 : 0, 1);
      due.is(inside + " fields", inside.getDeclaredFields().length <= 20 ? 1 : 0, 1);
    }
  }

  private static void onlyPrivate(Member member) {
    if (!member.isSynthetic()) {
      due.is("private " + member.getName(), Modifier.isPrivate(member.getModifiers()) ? 1 : 0, 1);
    }
  }

  /** Methods of the class itself are indented by 2, those of classes inside by 4. */
  private static void longMethods(String source) {
    String[] lines = source.split("\n");
    for (int i = 0; i < lines.length; i++) {
      boolean begins = lines[i].matches(" {2}( {2})?[a-z].*\\) \\{");
      if (begins) {
        String close = lines[i].startsWith("    ") ? "    }" : "  }";
        int end = i;
        while (end < lines.length && !lines[end].equals(close)) {
          end++;
        }
        due.is("long method: " + lines[i].trim(), end - i < LONGEST_METHOD ? 1 : 0, 1);
      }
    }
  }
}
