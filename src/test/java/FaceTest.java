import java.lang.reflect.Constructor;
import java.lang.reflect.Member;
import java.lang.reflect.Method;
import java.lang.reflect.Modifier;
import java.nio.file.Files;
import java.nio.file.Path;
import java.util.Arrays;
import java.util.TreeSet;
import java.util.regex.Matcher;
import java.util.regex.Pattern;
import java.util.stream.Collectors;

/** The face that can be seen is the one that the document writes out, with all its types, and no more. */
public final class FaceTest {
  private static final Path DOC = Path.of("../shared/DOC.md");
  private static final int PROMISES = 37;
  private static final Due due = new Due();

  public static void main(String[] args) throws Exception {
    String doc = Files.readString(DOC);
    TreeSet<String> told = toldFace(doc);
    due.is("calls and constructors that the document tells", told.size(), PROMISES);
    due.same("the face", String.join("\n", seenFace()), String.join("\n", told));
    promisesTellTheSame(doc, told);
    onlyTheFaceIsSeen();
    due.end();
  }

  private static TreeSet<String> toldFace(String doc) {
    String block = doc.substring(doc.indexOf("public final class CutInCopies {"));
    block = block.substring(0, block.indexOf("```"));
    TreeSet<String> told = new TreeSet<>();
    Matcher member = Pattern.compile(" {4}public (.*)\\((.*)\\);").matcher(block);
    while (member.find()) {
      told.add(member.group(1) + "(" + typesOf(member.group(2)) + ")");
    }
    return told;
  }

  /** From "int x, int y" the types alone. */
  private static String typesOf(String parameters) {
    return Arrays.stream(parameters.split(", ")).map(told -> told.split(" ")[0]).collect(Collectors.joining(", "));
  }

  private static TreeSet<String> seenFace() {
    TreeSet<String> seen = new TreeSet<>();
    for (Method method : CutInCopies.class.getDeclaredMethods()) {
      if (Modifier.isPublic(method.getModifiers())) {
        seen.add(method.getReturnType() + " " + method.getName() + "(" + typesOf(method.getParameterTypes()) + ")");
        due.is("modifiers of " + method, method.getModifiers(), Modifier.PUBLIC);
        due.is("exceptions of " + method, method.getExceptionTypes().length, 0);
      }
    }
    for (Constructor<?> made : CutInCopies.class.getDeclaredConstructors()) {
      seen.add("CutInCopies(" + typesOf(made.getParameterTypes()) + ")");
      due.is("modifiers of " + made, made.getModifiers(), Modifier.PUBLIC);
      due.is("exceptions of " + made, made.getExceptionTypes().length, 0);
    }
    return seen;
  }

  private static String typesOf(Class<?>[] parameters) {
    return Arrays.stream(parameters).map(Class::getName).collect(Collectors.joining(", "));
  }

  /** Each promise tells its call once more: none of the face is without a promise. */
  private static void promisesTellTheSame(String doc, TreeSet<String> told) {
    TreeSet<String> promised = new TreeSet<>();
    Matcher promise = Pattern.compile("## Promise \\d+: .*\n\n`(.*)\\((.*)\\)`:").matcher(doc);
    while (promise.find()) {
      promised.add(promise.group(1) + "(" + typesOf(promise.group(2)) + ")");
    }
    due.same("the promises' calls", String.join("\n", promised), String.join("\n", told));
  }

  private static void onlyTheFaceIsSeen() {
    due.is("public and final", CutInCopies.class.getModifiers(), Modifier.PUBLIC | Modifier.FINAL);
    due.same("what it extends", CutInCopies.class.getSuperclass().getName(), "java.lang.Object");
    due.is("what it implements", CutInCopies.class.getInterfaces().length, 0);
    due.same("its package", CutInCopies.class.getPackageName(), "");
    for (var field : CutInCopies.class.getDeclaredFields()) {
      onlyPrivate(field);
    }
    for (var method : CutInCopies.class.getDeclaredMethods()) {
      if (!Modifier.isPublic(method.getModifiers())) {
        onlyPrivate(method);
      }
    }
    for (Class<?> inside : CutInCopies.class.getDeclaredClasses()) {
      int modifiers = inside.getModifiers();
      due.is(inside + " is static", Modifier.isStatic(modifiers) ? 1 : 0, 1);
      due.is(inside + " is seen", Modifier.isPublic(modifiers) || Modifier.isProtected(modifiers) ? 1 : 0, 0);
    }
  }

  private static void onlyPrivate(Member member) {
    if (!member.isSynthetic()) {
      due.is("private " + member.getName(), Modifier.isPrivate(member.getModifiers()) ? 1 : 0, 1);
    }
  }
}
