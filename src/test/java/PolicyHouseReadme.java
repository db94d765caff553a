import java.io.ByteArrayOutputStream;
import java.io.IOException;
import java.io.PrintStream;
import java.net.URL;
import java.net.URLClassLoader;
import java.nio.file.Files;
import java.nio.file.Path;
import javax.tools.ToolProvider;

// README.md: its program compiles with the class, and prints what is told there. Runs in the project's folder.
public final class PolicyHouseReadme {
  private static String block(String text, String language) {
    String open = "```" + language + "\n";
    int from = text.indexOf(open);
    int to = text.indexOf("\n```", Math.max(from, 0) + 3);
    return from < 0 || to < 0 ? "no block of " + language : text.substring(from + open.length(), to + 1);
  }

  private static int compile(Path source, Path folder) {
    String classes = System.getProperty("java.class.path");
    return ToolProvider.getSystemJavaCompiler().run(null, System.err, System.err, "-cp", classes, "-d", folder.toString(), source.toString());
  }

  private static String printed(Path folder) throws Exception {
    PrintStream was = System.out;
    ByteArrayOutputStream out = new ByteArrayOutputStream();
    try (URLClassLoader loader = new URLClassLoader(new URL[] {folder.toUri().toURL()})) {
      System.setOut(new PrintStream(out, true));
      loader.loadClass("Example").getMethod("main", String[].class).invoke(null, (Object) new String[0]);
    } finally {
      System.setOut(was);
    }
    return out.toString();
  }

  private static void remove(Path folder) throws IOException {
    for (String name : new String[] {"Example.java", "Example.class"}) Files.deleteIfExists(folder.resolve(name));
    Files.deleteIfExists(folder);
  }

  public static void main(String[] args) throws Exception {
    String readme = Files.readString(Path.of("README.md"));
    Path folder = Files.createTempDirectory("readme");
    try {
      Path source = Files.writeString(folder.resolve("Example.java"), block(readme, "java"));
      boolean compiles = compile(source, folder) == 0;
      Desk.same("the program of README.md compiles", compiles, true);
      if (compiles) Desk.same("the program of README.md", printed(folder), block(readme, "text"));
    } finally {
      remove(folder);
    }
    Desk.end("readme");
  }
}
