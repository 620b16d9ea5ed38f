import java.nio.file.Files;
import java.nio.file.Path;
import java.util.ArrayList;
import java.util.List;
import java.util.NoSuchElementException;
import java.util.concurrent.Callable;

/** README.md's examples answer what it says, and its table has the whole face; it needs the project's folder. */
public final class ReadmeTest {
    private static final long A = Check.word("a");
    private static final long B = Check.word("b");

    /** What README.md says behind each call of its examples, in its order. */
    private final List<String> said = new ArrayList<>();
    private final List<String> lines;
    private int next = 0;

    private ReadmeTest(List<String> lines) {
        this.lines = lines;
        for (String line : lines) {
            if (line.matches("    \\S.*;\\s*// .*")) {
                said.add(line.strip());
            }
        }
    }

    public static void main(String[] args) throws Exception {
        ReadmeTest test = new ReadmeTest(Files.readAllLines(Path.of("README.md")));
        test.example();
        test.rules();
        Check.due(test.said.size(), () -> test.next, "all lines of the examples are tested");
        test.table();
        Check.finish();
    }

    private void line(String code, Callable<?> call) {
        String whole = next < said.size() ? said.get(next) : "";
        next++;
        Check.due(true, () -> whole.startsWith(code + ";"), "the line of README.md for " + code);
        String answer = whole.substring(whole.indexOf("// ") + 3).replaceFirst(":.*", "");
        Check.due(answer, () -> {
            Object got = Check.answer(call);
            return got instanceof Class<?> thrown ? thrown.getSimpleName() : got.toString();
        }, code);
    }

    private void example() {
        BurstTrie map = new BurstTrie();
        line("map.put(a, 1)", () -> map.put(A, 1));
        line("map.add(a, 4)", () -> map.add(A, 4));
        line("map.get(a)", () -> map.get(A));
        line("map.get(b)", () -> map.get(B));
        line("map.put(b, 7)", () -> map.put(B, 7));
        line("map.get(-1L)", () -> map.get(-1L));
        line("map.ceiling(a + 1)", () -> map.ceiling(A + 1));
        line("map.lower(b)", () -> map.lower(B));
        line("map.lower(a)", () -> map.lower(A));
        line("map.sum(0L, b)", () -> map.sum(0L, B));
        line("map.frequency(a)", () -> map.frequency(A));
        line("map.open(0, 0L)", () -> map.open(0, 0L));
        line("map.next(0)", () -> map.next(0));
        line("map.kind(0L)", () -> map.kind(0L));
        line("map.recordAt(0L, 0)", () -> map.recordAt(0L, 0));
        line("map.cost(a)", () -> map.cost(A));
        map.save(0);
        line("map.removeAt(0)", () -> map.removeAt(0));
        line("map.size()", () -> map.size());
        line("map.restore(0)", () -> map.restore(0));
        line("map.next(0)", () -> map.next(0));
    }

    private void rules() {
        BurstTrie map = new BurstTrie();
        line("setRule(map, \"size > 1 and depth < 2\")", () -> setRule(map, "size > 1 and depth < 2"));
        line("map.errorPosition()", () -> map.errorPosition());
        line("setRule(map, \"size > 100001\")", () -> setRule(map, "size > 100001"));
        line("map.errorPosition()", () -> map.errorPosition());
        line("setRule(map, \"size >\")", () -> setRule(map, "size >"));
        line("map.errorPosition()", () -> map.errorPosition());
        line("map.put(a, 1)", () -> map.put(A, 1));
        line("map.put(b, 2)", () -> map.put(B, 2));
        line("map.kind(0L)", () -> map.kind(0L));
        line("map.kind(a)", () -> map.kind(A));
        line("map.counter(5)", () -> map.counter(5));
    }

    /** As README.md writes it. */
    private static int setRule(BurstTrie map, String text) {
        int[] four = new int[5];
        for (int start = 0; start < text.length(); start += 20) {
            for (int i = 0; i < 20; i++) {
                int sign = start + i < text.length() ? text.charAt(start + i) : ' ';
                four[i / 4] = four[i / 4] << 8 | sign;
            }
            map.append(four[0], four[1], four[2], four[3], four[4]);
        }
        return map.setRule(text.length());
    }

    /** Each method of the face has a row, which names what its throws clause names, in this order. */
    private void table() {
        for (var method : BurstTrie.class.getDeclaredMethods()) {
            if (java.lang.reflect.Modifier.isPublic(method.getModifiers())) {
                StringBuilder thrown = new StringBuilder();
                for (Class<?> type : method.getExceptionTypes()) {
                    thrown.append(shortName(type)).append(' ');
                }
                Check.due(thrown.toString(), () -> thrownByRow(method.getName()), "README.md's row for " + method);
            }
        }
    }

    private static String shortName(Class<?> type) {
        if (type == NoSuchElementException.class) {
            return "Missing";
        }
        return type.getSimpleName().replaceFirst("^Illegal", "").replaceFirst("(OutOfBounds)?Exception$", "");
    }

    private String thrownByRow(String method) {
        for (String line : lines) {
            if (line.startsWith("| `" + method + "(")) {
                StringBuilder thrown = new StringBuilder();
                for (String part : line.split("\\|")[3].split(";")) {
                    thrown.append(part.isBlank() ? "" : part.strip().replaceFirst(":.*", " "));
                }
                return thrown.toString();
            }
        }
        return "no row";
    }
}
