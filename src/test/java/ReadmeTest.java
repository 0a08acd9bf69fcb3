import java.io.IOException;
import java.nio.file.Files;
import java.nio.file.Path;

/** The calls under "Use" in README.md, which .ci/run finds where it stands, with the answers told there. */
public final class ReadmeTest {
    private static String readme;

    public static void main(String[] args) throws IOException {
        readme = Files.readString(Path.of("README.md"));
        PagedBytes x = new PagedBytes();
        int m = x.make(1, 3);
        told("int m = x.make(1, 3);", "0:", m == 0);
        x.store(m, 0x36, 100, 0, 0xfffffff0L);
        told("x.store(m, 0x36, 100, 0, 0xfffffff0L);", "four bytes", x.sum(m, 100, 5) == 240 * 5 + 255 * 9);
        told("x.load(m, 0x28, 100, 0);", "0xfffffff0:", x.load(m, 0x28, 100, 0) == 0xfffffff0L);
        told("x.load(m, 0x30, 96, 4);", "-16:", x.load(m, 0x30, 96, 4) == -16);
        told("x.grow(m, 2);", "1:", x.grow(m, 2) == 1);
        told("x.grow(m, 1);", "NONE:", x.grow(m, 1) == PagedBytes.NONE);
        told("x.pages(m);", "3", x.pages(m) == 3);
        told("x.fits(m, 2, 4);", "true:", x.fits(m, 2, 4));
        x.copy(m, 100, m, 102, 4);
        told("x.copy(m, 100, m, 102, 4);", "four bytes", x.load(m, 0x29, 100, 0) == 0x0000fffffff0fff0L);
        told("x.sum(m, 100, 8);", "8205:", x.sum(m, 100, 8) == 8205);
        Check.end();
    }

    /** That the call stands in README.md with this answer behind it, and that the program gave it. */
    private static void told(String call, String answer, boolean given) {
        Check.isTrue(call + " answers " + answer, given);
        int at = readme.indexOf(call);
        Check.isTrue(call + " in README.md", at >= 0);
        String line = readme.substring(Math.max(at, 0)).lines().findFirst().orElse("");
        Check.isTrue(call + " // " + answer + " in README.md", line.contains("// " + answer));
    }
}
