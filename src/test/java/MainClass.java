import java.io.IOException;
import java.lang.reflect.Method;
import java.net.URL;
import java.net.URLClassLoader;
import java.nio.file.DirectoryStream;
import java.nio.file.Files;
import java.nio.file.Path;

/** Tells the class in a folder whose main method is the test, whatever the test's file is called. */
public final class MainClass {
    private static boolean hasMain(Class<?> found) {
        for (Method method : found.getDeclaredMethods()) {
            boolean takesTexts = method.getParameterCount() == 1 && method.getParameterTypes()[0] == String[].class;
            if (method.getName().equals("main") && takesTexts) {
                return true;
            }
        }
        return false;
    }

    public static void main(String[] args) throws IOException, ReflectiveOperationException {
        Path folder = Path.of(args[0]);
        URL[] places = {folder.toUri().toURL()};
        // Without a parent that knows the project's own tests: only the folder is looked into.
        try (URLClassLoader loader = new URLClassLoader(places, ClassLoader.getPlatformClassLoader());
                DirectoryStream<Path> files = Files.newDirectoryStream(folder, "*.class")) {
            for (Path file : files) {
                String name = file.getFileName().toString().replaceFirst("\\.class$", "");
                boolean mayBe = !name.equals("CairnIndex") && name.indexOf('$') < 0;
                if (mayBe && hasMain(loader.loadClass(name))) {
                    System.out.println(name);
                    return;
                }
            }
        }
        System.exit(1);
    }
}
