import java.io.IOException;
import java.lang.reflect.Method;
import java.lang.reflect.Modifier;
import java.math.BigInteger;
import java.nio.file.Files;
import java.nio.file.Path;
import java.util.List;

/** What README.md tells a user is so: its example, line by line, and a row of a table for each call of the face. */
public final class ReadmeTest {
    private static List<String> lines;

    public static void main(String[] args) throws IOException {
        lines = Files.readAllLines(Path.of("README.md"));
        example();
        tables();
        numberMadeAsTold();
        Due.finish();
    }

    private static void example() {
        WholeMill mill = new WholeMill();
        stands("WholeMill mill = new WholeMill();", "registers 0 .. 15 are 0");
        for (int r = 0; r < 16; r++) {
            has(mill, r, 0);
        }
        String call = stands("mill.push(0, 1000);", "register 0 is 1000");
        Due.done(call, mill.push(0, 1000));
        has(mill, 0, 1000);
        call = stands("mill.times(1, 0, 0);", "register 1 is 1000000");
        Due.done(call, mill.times(1, 0, 0));
        has(mill, 1, 1000000);
        call = stands("mill.push(2, 7);", "register 2 is 7");
        Due.done(call, mill.push(2, 7));
        has(mill, 2, 7);
        call = stands("mill.divide(3, 4, 1, 2);", "register 3 is 142857, register 4 is 1");
        Due.done(call, mill.divide(3, 4, 1, 2));
        has(mill, 3, 142857);
        has(mill, 4, 1);
        call = stands("mill.root(5, 6, 3);", "register 5 is 377, register 6 is 728");
        Due.done(call, mill.root(5, 6, 3));
        has(mill, 5, 377);
        has(mill, 6, 728);
        call = stands("mill.word(5, 0);", "answers 377");
        Due.is(call, 377, mill.word(5, 0));
        call = stands("mill.take(7, 2, 1);", "answers false: 7 - 1000000 is below 0, register 7 is still 0");
        Due.refused(call, mill.take(7, 2, 1));
        has(mill, 7, 0);
    }

    /** README.md has a line with this code and this comment behind it. */
    private static String stands(String code, String comment) {
        int found = 0;
        for (String line : lines) {
            found += line.startsWith(code) && line.endsWith("// " + comment) ? 1 : 0;
        }
        Due.is("lines of README.md with " + code + " // " + comment, 1, found);
        return code;
    }

    private static void has(WholeMill mill, int r, int number) {
        Due.number("README.md's example", BigInteger.valueOf(number), mill, r);
    }

    private static void tables() {
        for (Method method : WholeMill.class.getDeclaredMethods()) {
            if (Modifier.isPublic(method.getModifiers())) {
                Due.is("rows of README.md for " + method.getName(), 1, rowsFor(method));
            }
        }
    }

    private static int rowsFor(Method method) {
        int rows = 0;
        for (String line : lines) {
            if (line.startsWith("| `" + method.getName() + "(")) {
                String names = line.substring(line.indexOf('(') + 1, line.indexOf(')'));
                rows += names.split(", ").length == method.getParameterCount() ? 1 : 0;
            }
        }
        return rows;
    }

    private static void numberMadeAsTold() {
        WholeMill mill = new WholeMill();
        BigInteger number = new BigInteger("123456789abcdef0fedcba98765432100f1e2d3c4b5a6978", 16);
        for (int at = 128; at >= 0; at -= 64) {
            Due.done("push of the 64 bits from " + at + " on", mill.push(3, number.shiftRight(at).longValue()));
        }
        Due.number("pushed, the highest first", number, mill, 3);
        Due.done("copy from a register that is 0", mill.copy(3, 4));
        has(mill, 3, 0);
        mill.push(3, -1);
        Due.done("spread(3, 0, 0)", mill.spread(3, 0, 0));
        has(mill, 3, 0);
    }
}
