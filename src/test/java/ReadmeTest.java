import java.io.IOException;
import java.io.UncheckedIOException;
import java.lang.reflect.Method;
import java.lang.reflect.Modifier;
import java.net.URL;
import java.net.URLClassLoader;
import java.nio.file.Files;
import java.nio.file.Path;
import java.util.Comparator;
import java.util.List;
import java.util.regex.Matcher;
import java.util.regex.Pattern;
import java.util.stream.Stream;
import javax.tools.JavaCompiler;
import javax.tools.StandardJavaFileManager;
import javax.tools.ToolProvider;

/** What README.md tells is so when it is tried: its rows of Java are compiled and run, each answer looked at. */
public final class ReadmeTest {
  private static final Pattern BLOCK = Pattern.compile("```java\n(.*?)```", Pattern.DOTALL);
  private static final Pattern ASKED = Pattern.compile("((?:cut|new CutInCopies\\(\\))\\.\\w+\\([^;]*\\)); *// (-?\\d+)(:.*)?");
  private static final Pattern REFUSAL = Pattern.compile("\\| -(\\d+) \\| (\\d*) ?\\| .* \\| (no|`count\\((\\d+)\\)`) \\|");
  private static final Due due = new Due();

  public static void main(String[] args) throws Exception {
    String readme = Files.readString(Path.of("README.md"));
    javaRows(readme);
    refusals(readme);
    commands(readme);
    due.end();
  }

  private static void javaRows(String readme) throws Exception {
    StringBuilder body = new StringBuilder();
    int asked = 0;
    Matcher block = BLOCK.matcher(readme);
    while (block.find()) {
      for (String row : block.group(1).split("\n")) {
        Matcher call = ASKED.matcher(row);
        boolean isAsked = call.matches();
        due.is("a row with an answer, or of no call: " + row, isAsked || !row.contains("//") ? 1 : 0, 1);
        asked += isAsked ? 1 : 0;
        body.append(isAsked ? due(call.group(1), call.group(2)) : row).append('\n');
      }
    }
    due.is("there are rows", asked > 30 ? 1 : 0, 1);
    run(body.toString());
  }

  private static String due(String call, String want) {
    return "due.accept(\"README: " + call.replace("\"", "\\\"") + "\", new long[] {" + call + ", " + want + "L});";
  }

  private static void run(String body) throws Exception {
    Path folder = Files.createTempDirectory("readme");
    try {
      Path source = folder.resolve("ReadmeRows.java");
      Files.writeString(source, "public final class ReadmeRows {\n"
          + "  public static void rows(java.util.function.BiConsumer<String, long[]> due) {\n" + body + "  }\n}\n");
      JavaCompiler compiler = ToolProvider.getSystemJavaCompiler();
      try (StandardJavaFileManager files = compiler.getStandardFileManager(null, null, null)) {
        List<String> options = List.of("-d", folder.toString(), "-cp", System.getProperty("java.class.path"));
        boolean compiled = compiler.getTask(null, files, null, options, null, files.getJavaFileObjects(source)).call();
        due.is("README's rows of Java compile", compiled ? 1 : 0, 1);
        if (compiled) {
          ask(folder);
        }
      }
    } finally {
      remove(folder);
    }
  }

  private static void ask(Path folder) throws Exception {
    try (URLClassLoader loader = new URLClassLoader(new URL[] {folder.toUri().toURL()})) {
      Method rows = loader.loadClass("ReadmeRows").getMethod("rows", java.util.function.BiConsumer.class);
      java.util.function.BiConsumer<String, long[]> told = (call, answers) -> due.is(call, answers[0], answers[1]);
      rows.invoke(null, told);
    }
  }

  private static void remove(Path folder) throws IOException {
    try (Stream<Path> all = Files.walk(folder)) {
      all.sorted(Comparator.reverseOrder()).forEach(path -> {
        try {
          Files.delete(path);
        } catch (IOException e) {
          throw new UncheckedIOException(e);
        }
      });
    }
  }

  /** The table of refusals: the long of each, and which count tells how often it was. */
  private static void refusals(String readme) {
    Matcher row = REFUSAL.matcher(readme);
    int rows = 0;
    while (row.find()) {
      rows++;
      long refusal = Long.parseLong(row.group(1));
      if (!row.group(2).isEmpty()) {
        due.is("README: far of -" + refusal, Long.parseLong(row.group(2)), Due.FAR + refusal);
      }
      due.is("README: counted -" + refusal, row.group(4) == null ? 0 : Long.parseLong(row.group(4)),
          refusal <= 6 ? 10 + refusal : 0);
    }
    due.is("README: refusals", rows, 9);
    Matcher far = Pattern.compile("The calls that answer a long \\(([^)]*)\\)").matcher(readme);
    due.is("README: calls that answer a long", far.find() ? 1 : 0, 1);
    for (Method method : CutInCopies.class.getDeclaredMethods()) {
      if (Modifier.isPublic(method.getModifiers())) {
        boolean told = far.group(1).contains("`" + method.getName() + "`");
        due.is("README: long of " + method.getName(), told ? 1 : 0, method.getReturnType() == long.class ? 1 : 0);
      }
    }
  }

  private static void commands(String readme) {
    due.is("README tells .ci/run", readme.contains("\n    .ci/run\n") ? 1 : 0, 1);
    due.is(".ci/run can be run", Files.isExecutable(Path.of(".ci/run")) ? 1 : 0, 1);
    Matcher path = Pattern.compile("`?((?:\\.\\./shared|src)/[\\w/.]*\\w)").matcher(readme);
    while (path.find()) {
      due.is("README: there is " + path.group(1), Files.exists(Path.of(path.group(1))) ? 1 : 0, 1);
    }
  }
}
