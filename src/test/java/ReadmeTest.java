import java.io.IOException;
import java.net.URL;
import java.net.URLClassLoader;
import java.nio.file.Files;
import java.nio.file.Path;
import javax.tools.ToolProvider;

/** What README.md shows under "Use" compiles as it stands there, and answers what it says. */
public final class ReadmeTest {
    private static final byte[] SECRET =
            Bytes.ofHex("9d61b19deffd5a60ba844af492ec2cc44449c5697b326919703bac031cae7f60");

    public static void main(String[] args) throws IOException, ReflectiveOperationException {
        Check check = new Check();
        Path folder = Files.createTempDirectory("readme");
        Path source = folder.resolve("Shown.java");
        Files.writeString(source, "class Shown { static String answers() {\n" + example()
                + "return key + \" \" + verdict + \" \" + agreed + \" \" + first; } }\n");
        String classes = System.getProperty("java.class.path");
        int failures = ToolProvider.getSystemJavaCompiler()
                .run(null, null, null, "-cp", classes, "-d", folder.toString(), source.toString());
        check.due("javac of the example", failures, 0);
        check.due("the example", failures == 0 ? answers(folder) : "nothing", "0 0 true " + firstOfTheSecret());
        Files.walk(folder).sorted((a, b) -> b.compareTo(a)).map(Path::toFile).forEach(file -> file.delete());
        check.finish();
    }

    private static String example() throws IOException {
        String readme = Files.readString(Path.of("README.md"));
        int start = readme.indexOf("```java\n") + "```java\n".length();
        return readme.substring(start, readme.indexOf("```", start));
    }

    private static Object answers(Path folder) throws IOException, ReflectiveOperationException {
        try (URLClassLoader loader = new URLClassLoader(new URL[] {folder.toUri().toURL()})) {
            var method = loader.loadClass("Shown").getDeclaredMethod("answers");
            method.setAccessible(true);
            return method.invoke(null);
        }
    }

    private static int firstOfTheSecret() {
        byte[] publicKey = Reference.x25519(SECRET, Bytes.ofNumber(Reference.number(9)));
        return Reference.x25519(SECRET, publicKey)[0] & 255;
    }
}
