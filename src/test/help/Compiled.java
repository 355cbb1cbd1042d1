import java.io.IOException;
import java.net.URL;
import java.net.URLClassLoader;
import java.nio.file.Files;
import java.nio.file.Path;
import javax.tools.JavaCompiler;
import javax.tools.ToolProvider;

/** Compiles a class while a test runs, and loads it. */
final class Compiled {
  private Compiled() {
  }

  /** The parent may be null: then the class finds nothing but the Java library and itself. */
  static Class<?> from(String name, String source, ClassLoader parent) {
    JavaCompiler compiler = ToolProvider.getSystemJavaCompiler();
    if (compiler == null) {
      throw new IllegalStateException("there is no javac");
    }
    try {
      Path folder = Files.createTempDirectory(name);
      Path file = Files.writeString(folder.resolve(name + ".java"), source);
      int code = compiler.run(null, null, null, "-cp", System.getProperty("java.class.path"), "-d",
          folder.toString(), file.toString());
      if (code != 0) {
        throw new IllegalStateException(name + " does not compile");
      }
      // The loader stays open as long as the test: classes inside are loaded when they are used.
      return new URLClassLoader(new URL[] {folder.toUri().toURL()}, parent).loadClass(name);
    } catch (IOException | ClassNotFoundException gone) {
      throw new IllegalStateException(gone);
    }
  }

  /** A file of the project; .ci/run calls the tests where the project begins. */
  static String textOf(String path) {
    try {
      return Files.readString(Path.of(path));
    } catch (IOException gone) {
      throw new IllegalStateException("run this where the project begins: no " + path);
    }
  }
}
