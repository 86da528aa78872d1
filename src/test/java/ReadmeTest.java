import java.lang.reflect.Method;
import java.lang.reflect.Modifier;
import java.nio.file.Files;
import java.nio.file.Path;
import java.util.ArrayList;
import java.util.Arrays;
import java.util.List;
import java.util.regex.Matcher;
import java.util.regex.Pattern;

/** What README.md says of the class: each call of its example answers what stands behind it. */
public final class ReadmeTest {
    private static final Pattern CALL =
        Pattern.compile("(?:int q = )?x\\.(\\w+)\\((.*?)\\); *// (true|false|-?\\d+)\\b.*");
    private static final String MADE = "MarkPages x = new MarkPages();";

    private final MarkPages x = new MarkPages();
    private int question = MarkPages.NONE;

    public static void main(String[] args) throws Exception {
        String readme = Files.readString(Path.of("README.md"));
        new ReadmeTest().example(block(readme, "java"));
        Desk.due("README's rules", new Desk().rules(block(readme, "text")), 2);
        allCallsAreTold(readme);
        Desk.finish();
    }

    /** The first block of a kind, without the lines that fence it. */
    private static String block(String readme, String kind) {
        Matcher found = Pattern.compile("(?s)```" + kind + "\n(.*?)```").matcher(readme);
        Desk.due("README has a block of " + kind, found.find(), true);
        return found.reset().find() ? found.group(1) : "";
    }

    private void example(String code) throws Exception {
        int calls = 0;
        for (String line : code.split("\n")) {
            Matcher call = CALL.matcher(line);
            if (call.matches()) {
                String got = answer(call.group(1), call.group(2));
                Desk.due("README: " + line, got, call.group(3));
                calls++;
            } else {
                Desk.due("README: a line without an answer", line.isEmpty() ? MADE : line, MADE);
            }
        }
        Desk.due("README: its example has calls", calls > 0, true);
    }

    private String answer(String name, String numbers) throws Exception {
        List<Object> told = new ArrayList<>();
        for (String number : numbers.isEmpty() ? new String[0] : numbers.split(", ")) {
            told.add(number.equals("q") ? question : Integer.decode(number).intValue());
        }
        Class<?>[] types = new Class<?>[told.size()];
        Arrays.fill(types, int.class);
        Object got = MarkPages.class.getMethod(name, types).invoke(x, told.toArray());
        if (name.equals("question")) {
            question = (Integer) got;
        }
        return got.toString();
    }

    private static void allCallsAreTold(String readme) {
        for (Method m : MarkPages.class.getDeclaredMethods()) {
            if (Modifier.isPublic(m.getModifiers())) {
                Desk.due("README tells of " + m.getName(), readme.contains(" `" + m.getName() + "("), true);
                Desk.due("README shows " + m.getName(), readme.contains("x." + m.getName() + "("), true);
            }
        }
    }
}
