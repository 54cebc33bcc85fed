import java.lang.reflect.Method;
import java.net.URI;
import java.net.URL;
import java.net.URLClassLoader;
import java.nio.file.Files;
import java.nio.file.Path;
import java.util.List;
import java.util.regex.Matcher;
import java.util.regex.Pattern;
import javax.tools.JavaCompiler;
import javax.tools.JavaFileObject;
import javax.tools.SimpleJavaFileObject;
import javax.tools.ToolProvider;

/** Compiles and runs the examples of README.md: each call answers what stands behind it there. */
public final class ReadmeTest {
  private static final Path README = Path.of("README.md");
  private static final Pattern EXAMPLE = Pattern.compile("(?s)```java\n(.*?)```");
  private static final Pattern CALL = Pattern.compile("(?m)^(x\\.\\w+\\(.*?\\));\\s*// (-?\\d+): .*$");
  private static final Path OUT = Path.of("build/readme");
  private static final int CALLS_AT_LEAST = 20;

  private static int calls = 0;
  private static int wrong = 0;

  /** The source of a class, held as a text. */
  private static final class Source extends SimpleJavaFileObject {
    private final String text;

    Source(String name, String text) {
      super(URI.create("string:///" + name + ".java"), Kind.SOURCE);
      this.text = text;
    }

    @Override
    public CharSequence getCharContent(boolean ignoreErrors) {
      return text;
    }
  }

  /** What an example's call answered, and what README.md says of it. */
  public static void due(String call, long got, long want) {
    calls++;
    if (got != want) {
      wrong++;
      System.out.println("README.md: " + call + " answered " + got + ", there it is " + want);
    }
  }

  public static void main(String[] args) throws Exception {
    Files.createDirectories(OUT);
    Matcher example = EXAMPLE.matcher(Files.readString(README));
    int examples = 0;
    while (example.find()) {
      examples++;
      run("Example" + examples, example.group(1));
    }
    if (calls < CALLS_AT_LEAST) {
      wrong++;
      System.out.println("README.md has only " + calls + " calls with answers");
    }
    System.out.println(calls + " calls of " + examples + " examples, " + wrong + " wrong");
    if (wrong != 0) {
      System.exit(1);
    }
  }

  private static void run(String name, String example) throws Exception {
    String asked = CALL.matcher(example).replaceAll(found -> {
      String call = found.group(1);
      return Matcher.quoteReplacement("ReadmeTest.due(\"" + call + "\", " + call + ", " + found.group(2) + "L);");
    });
    String source = "public final class " + name + " { public static void run() {\n" + asked + "\n} }";
    JavaCompiler compiler = ToolProvider.getSystemJavaCompiler();
    List<String> options = List.of("-d", OUT.toString(), "-cp", System.getProperty("java.class.path"));
    List<JavaFileObject> sources = List.of(new Source(name, source));
    if (!compiler.getTask(null, null, null, options, null, sources).call()) {
      wrong++;
      System.out.println("README.md: an example does not compile");
      return;
    }
    try (URLClassLoader loader = new URLClassLoader(new URL[] {OUT.toUri().toURL()})) {
      Method run = loader.loadClass(name).getMethod("run");
      run.invoke(null);
    }
  }
}
