import java.io.IOException;
import java.lang.reflect.Method;
import java.lang.reflect.Modifier;
import java.nio.file.Files;
import java.nio.file.Path;

/** The example in README.md answers what its comments tell, and README.md names every call. Run it where that is. */
public final class ReadmeTest {
    private static final TwinBoot BOOT = new TwinBoot();
    private static String readme = "";

    public static void main(String[] args) throws IOException {
        readme = Files.readString(Path.of("README.md"));
        line("boot.append(0x666c617368203136L);", 8, BOOT.append(0x666c617368203136L));
        line("boot.append(0x20342031323b696dL);", 16, BOOT.append(0x20342031323b696dL));
        line("boot.append(0x6167652030203120L);", 24, BOOT.append(0x6167652030203120L));
        line("boot.append(0x353b676f6f642030L);", 32, BOOT.append(0x353b676f6f642030L));
        line("boot.load();                 // 1:", 1, BOOT.load());
        line("boot.boot();                 // 0:", 0, BOOT.boot());
        line("boot.stage(7);               // 1:", 1, BOOT.stage(7));
        line("boot.firstUnsafeCut(2);      // -1:", -1, BOOT.firstUnsafeCut(2));
        line("boot.slotAfterCut(2, 3);     // 0:", 0, BOOT.slotAfterCut(2, 3));
        line("boot.update(2);              // 9:", 9, BOOT.update(2));
        line("boot.boot();                 // 1:", 1, BOOT.boot());
        line("boot.confirm();              // 2:", 2, BOOT.confirm());
        everyMethodIsNamed();
        Check.end();
    }

    /** The line must stand in the example as it is tested here. */
    private static void line(String text, int due, int got) {
        Check.same("README.md has " + text, true, readme.contains("\n" + text));
        Check.same(text, due, got);
    }

    private static void everyMethodIsNamed() {
        for (Method method : TwinBoot.class.getDeclaredMethods()) {
            boolean isOfFace = Modifier.isPublic(method.getModifiers());
            boolean isNamed = readme.matches("(?s).*\\b" + method.getName() + "\\b.*");
            Check.same("README.md names " + method.getName(), true, !isOfFace || isNamed);
        }
    }
}
