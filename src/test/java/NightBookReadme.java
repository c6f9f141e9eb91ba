import java.io.IOException;
import java.net.URI;
import java.net.URL;
import java.net.URLClassLoader;
import java.nio.file.Files;
import java.nio.file.Path;
import java.util.ArrayList;
import java.util.List;
import java.util.Set;
import java.util.TreeSet;
import java.util.regex.Matcher;
import java.util.regex.Pattern;
import javax.tools.JavaCompiler;
import javax.tools.JavaFileObject;
import javax.tools.SimpleJavaFileObject;
import javax.tools.ToolProvider;

/** What README.md shows: its Java is compiled as it stands and run, and each call must answer what stands behind it. */
public final class NightBookReadme {
  private static final Path PAGE = Path.of("README.md");
  private static final Path OUT = Path.of("build", "NightBookReadme", "shown");
  private static final Pattern CALL = Pattern.compile("(?:int (\\w+) = )?(\\w.*);\\s+// (-?\\d+|true|false)(?:: .*)?");
  private static final Pattern NAME = Pattern.compile("\\bx\\.(\\w+)\\(");
  private static final String MADE = "NightBook x = new NightBook();";
  private static final StringBuilder methods = new StringBuilder();
  private static final StringBuilder run = new StringBuilder();
  private static final Set<String> shown = new TreeSet<>();
  private static int answers = 0;
  private static int wrong = 0;

  private static void must(boolean holds, String what) {
    if (!holds) { wrong++; System.out.println("README.md: " + what); }
  }

  /** Called by the shown lines. */
  public static void due(String call, Object got, Object want) {
    answers++;
    must(want.equals(got), call + " answered " + got + ", the page says " + want);
  }

  private static List<List<String>> blocks() throws IOException {
    List<List<String>> blocks = new ArrayList<>();
    List<String> block = null;
    for (String line : Files.readAllLines(PAGE)) {
      if (line.equals("```java")) blocks.add(block = new ArrayList<>());
      else if (line.startsWith("```")) block = null;
      else if (block != null) block.add(line);
    }
    return blocks;
  }

  private static void take(List<String> block) {
    boolean ofMethods = !block.isEmpty() && block.get(0).startsWith("static ");
    for (String line : block) {
      if (ofMethods) methods.append(line).append('\n');
      else takeLine(line);
    }
  }

  private static void takeLine(String line) {
    Matcher names = NAME.matcher(line);
    while (names.find()) shown.add(names.group(1));
    Matcher call = CALL.matcher(line);
    if (line.isEmpty() || line.startsWith("//")) return;
    if (line.equals(MADE)) run.append(line).append('\n');
    else if (call.matches()) check(call.group(1), call.group(2), call.group(3));
    else must(false, "no answer stands behind <" + line + ">");
  }

  private static void check(String variable, String call, String answer) {
    String got = call;
    if (variable != null) {
      run.append("int ").append(variable).append(" = ").append(call).append(";\n");
      got = variable;
    }
    String told = call.replace("\"", "\\\"");
    run.append("NightBookReadme.due(\"").append(told).append("\", ").append(got).append(", ").append(answer).append(");\n");
  }

  private static JavaFileObject source() {
    String text = "public final class Shown {\n" + methods + "public static void run() {\n" + run + "}\n}\n";
    return new SimpleJavaFileObject(URI.create("string:///Shown.java"), JavaFileObject.Kind.SOURCE) {
      @Override
      public CharSequence getCharContent(boolean ignoreErrors) {
        return text;
      }
    };
  }

  private static void runShown() throws Exception {
    Files.createDirectories(OUT);
    JavaCompiler compiler = ToolProvider.getSystemJavaCompiler();
    List<String> options = List.of("--release", "17", "-cp", System.getProperty("java.class.path"), "-d", OUT.toString());
    boolean compiled = compiler.getTask(null, null, null, options, null, List.of(source())).call();
    must(compiled, "what it shows is no Java");
    if (!compiled) return;
    try (URLClassLoader loader = new URLClassLoader(new URL[] {OUT.toUri().toURL()})) {
      loader.loadClass("Shown").getMethod("run").invoke(null);
    }
  }

  private static void everyCall() {
    for (var method : NightBook.class.getDeclaredMethods()) {
      boolean open = java.lang.reflect.Modifier.isPublic(method.getModifiers());
      must(!open || shown.contains(method.getName()), "it shows no call of " + method.getName());
    }
  }

  private static void everyTest() throws IOException {
    String page = Files.readString(PAGE);
    must(page.contains("\n    .ci/run\n"), "it doesn't say how to run the tests");
    try (var tests = Files.newDirectoryStream(Path.of("src", "test", "java"), "*.java")) {
      for (Path test : tests) {
        String name = test.getFileName().toString().replace(".java", "");
        must(page.contains("- `" + name + "`: "), "it doesn't tell of the test " + name);
      }
    }
  }

  public static void main(String[] args) throws Exception {
    for (List<String> block : blocks()) take(block);
    runShown();
    everyCall();
    everyTest();
    must(answers > 0, "it shows no call");
    System.out.println(answers + " answers asked, " + wrong + " wrong");
    if (wrong > 0) System.exit(1);
  }
}
