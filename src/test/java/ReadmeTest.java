import java.io.File;
import java.lang.reflect.Method;
import java.lang.reflect.Modifier;
import java.net.URL;
import java.net.URLClassLoader;
import java.nio.file.Files;
import java.nio.file.Path;
import java.util.regex.Matcher;
import java.util.regex.Pattern;
import javax.tools.ToolProvider;

/** README.md: its program compiles and each call in it answers what stands behind it; all calls and all tests are named. */
public final class ReadmeTest {
  private static final Kit KIT = new Kit("ReadmeTest");
  private static final Path ROOT = Path.of(System.getProperty("rope.root", "."));
  private static final Pattern BLOCK = Pattern.compile("```java\n(.*?)```", Pattern.DOTALL);
  private static final Pattern ANSWERED = Pattern.compile("(?m)^(.*\\));\\s*// (-?\\d+|true|false)\\b.*$");
  private static final String AHEAD = "public final class ReadmeProgram {\n  static int wrong;\n  static int calls;\n"
      + "  static void due(String call, Object got, Object want) {\n    calls++;\n    if (!got.equals(want)) {\n      wrong++;\n"
      + "      System.out.println(\"README: \" + call + \" answers \" + got + \", not \" + want);\n    }\n  }\n";

  public static void main(String[] args) throws Exception {
    String readme = Files.readString(ROOT.resolve("README.md"));
    program(readme);
    for (Method method : RopeLedger.class.getDeclaredMethods()) {
      if (Modifier.isPublic(method.getModifiers())) {
        KIT.due("README names " + method.getName(), readme.contains("`" + method.getName() + "("), true);
      }
    }
    for (String file : ROOT.resolve("src/test/java").toFile().list()) {
      String test = file.replace(".java", "");
      KIT.due("README names " + test, !test.endsWith("Test") || readme.contains("`" + test + "`"), true);
    }
    KIT.end();
  }

  private static void program(String readme) throws Exception {
    Matcher blocks = BLOCK.matcher(readme);
    KIT.due("functions", blocks.find(), true);
    String functions = blocks.group(1);
    KIT.due("calls", blocks.find(), true);
    String calls = ANSWERED.matcher(blocks.group(1)).replaceAll(ReadmeTest::asDue);
    KIT.due("no third program", blocks.find(), false);
    Path out = Files.createTempDirectory("readme");
    Path source = out.resolve("ReadmeProgram.java");
    Files.writeString(source, AHEAD + functions + "  public static int run() {\n" + calls + "    return calls < 20 ? -1 : wrong;\n  }\n}\n");
    int compiled = ToolProvider.getSystemJavaCompiler().run(null, null, null, "-cp", System.getProperty("java.class.path"), "-d",
        out.toString(), source.toString());
    KIT.due("README's program compiles", compiled, 0);
    try (URLClassLoader loader = new URLClassLoader(new URL[] {out.toUri().toURL()})) {
      Method run = loader.loadClass("ReadmeProgram").getDeclaredMethod("run");
      run.setAccessible(true);
      KIT.due("README's answers that aren't so", (Integer) run.invoke(null), 0);
    }
    for (File file : out.toFile().listFiles()) {
      file.delete();
    }
    out.toFile().delete();
  }

  private static String asDue(java.util.regex.MatchResult answered) {
    String told = answered.group(1).replace("\\", "\\\\").replace("\"", "\\\"");
    return Matcher.quoteReplacement("due(\"" + told + "\", " + answered.group(1) + ", " + answered.group(2) + ");");
  }
}
