import java.io.IOException;
import java.lang.reflect.InvocationTargetException;
import java.lang.reflect.Method;
import java.nio.file.Files;
import java.nio.file.Path;
import java.util.HashSet;
import java.util.Set;
import java.util.regex.Matcher;
import java.util.regex.Pattern;

// The example of README.md, call by call: what a reader is told is what the class answers.
public final class ReadmeTests {
    private static final Pattern CALL = Pattern.compile("gate\\.(\\w+)\\(([^)]*)\\); *// ([^:]+): .+");

    private static int wrong = 0;

    public static void main(String[] args) throws IOException, IllegalAccessException {
        CausalGate gate = new CausalGate();
        Set<String> used = new HashSet<>();
        for (String line : Files.readAllLines(Path.of("README.md"))) {
            if (line.startsWith("gate.")) {
                used.add(tryLine(gate, line));
            }
        }
        for (Method method : CausalGate.class.getMethods()) {
            if (method.getDeclaringClass() == CausalGate.class && !used.contains(method.getName())) {
                report("README.md has no example of " + method.getName());
            }
        }
        System.out.println(wrong == 0 ? "the example is as told" : wrong + " lines are not as told");
        if (wrong != 0) {
            System.exit(1);
        }
    }

    private static String tryLine(CausalGate gate, String line) throws IllegalAccessException {
        Matcher call = CALL.matcher(line);
        if (!call.matches()) {
            report("not a call with its answer: " + line);
            return "";
        }
        Method method = methodOf(call.group(1));
        if (method == null) {
            report("no such method: " + line);
            return "";
        }
        String got = answer(gate, method, call.group(2));
        if (!got.equals(plain(call.group(3)))) {
            report(line + " -- answered " + got);
        }
        return method.getName();
    }

    private static Method methodOf(String name) {
        for (Method method : CausalGate.class.getMethods()) {
            if (method.getName().equals(name)) {
                return method;
            }
        }
        return null;
    }

    private static String answer(CausalGate gate, Method method, String written) throws IllegalAccessException {
        String[] texts = written.isEmpty() ? new String[0] : written.split(", ");
        Object[] arguments = new Object[texts.length];
        for (int i = 0; i < texts.length; i++) {
            arguments[i] = argument(texts[i]);
        }
        try {
            Object answer = method.invoke(gate, arguments);
            return method.getReturnType() == void.class ? "void" : String.valueOf(answer);
        } catch (InvocationTargetException e) {
            return "throws " + e.getCause().getClass().getSimpleName();
        }
    }

    private static Object argument(String text) {
        if (text.equals("CausalGate.NONE")) {
            return CausalGate.NONE;
        }
        if (text.endsWith("L")) {
            return Long.decode(text.substring(0, text.length() - 1));
        }
        return Integer.decode(text);
    }

    private static String plain(String told) {
        return told.startsWith("0x") ? String.valueOf(Long.decode(told)) : told;
    }

    private static void report(String text) {
        wrong++;
        System.out.println(text);
    }
}
