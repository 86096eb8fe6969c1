import java.util.ArrayList;
import java.util.Arrays;
import java.util.List;

/** Every statement's line, ended too early at each token, and with something wrong in place of each: which fault it is. */
public final class LinesTest {
    private static final Checks c = new Checks();

    public static void main(String[] args) {
        c.about("promise 4, faults of every line");
        for (ModelFields.Line it : ModelFields.LINES) {
            line(it.name(), it.operands());
        }
        for (String name : ModelFields.OTHERS.keySet()) {
            line(name, ModelFields.OTHERS.get(name).operands().replace('t', 'J'));
        }
        line("la", "d,J");
        line("li", "d,I");
        line("jal", "J");
        line("jalr", "a");
        for (String name : new String[] {".byte", ".half", ".word"}) {
            check(name, Arrays.asList("I", ",", "I", ",", "I"));
        }
        for (String name : new String[] {".space", ".align"}) {
            check(name, List.of("V"));
        }
        check(".ascii", Arrays.asList("\"a\"", ",", "\"b\""));
        check(".asciz", Arrays.asList("\"a\"", ",", "\"b\""));
        check(".equ", Arrays.asList("name", ",", "I"));
        check(".text", List.of());
        check(".data", List.of());
        for (String text : new String[] {"li a0, 5", "li a0, 500", "li a0, 0x12000", "li a0, 0x12345", "li zero, -1",
            "beq a0, a1, . + 6000", "beqz a0, . + 600", "beqz a0, . + 6000", "j . + 6000", "jal . - 6000", ".asciz \"abc\""}) {
            nothingBehind(text);
        }
        c.finish();
    }

    private static void line(String name, String operands) {
        List<String> tokens = new ArrayList<>();
        for (char letter : operands.toCharArray()) {
            tokens.add(String.valueOf(letter));
        }
        check(name, tokens);
    }

    private static boolean isRegister(String token) {
        ModelFields.Field field = ModelFields.FIELDS.get(token.charAt(0));
        return token.length() == 1 && field != null && field.register();
    }

    private static boolean isNumber(String token) {
        return token.length() == 1 && ModelFields.FIELDS.containsKey(token.charAt(0)) && !isRegister(token);
    }

    /** A good text for a token. */
    private static String good(String token) {
        if (isRegister(token)) {
            return "a3";
        }
        return !isNumber(token) ? token : token.equals("Y") ? "16" : token.matches("[TJKL]") ? ". + 8" : "8";
    }

    private static String joined(String name, List<String> operands) {
        return "lab: " + name + " " + String.join(" ", operands);
    }

    private static void fault(String text, int due) {
        TimeMachine x = new TimeMachine();
        c.same("assemble of <" + text + ">", Checks.assemble(x, 0, "nop\n" + text), due == 0 ? 0 : due + 16 * 2);
    }

    /** The bytes of a statement are all that it puts. */
    private static void nothingBehind(String text) {
        TimeMachine x = new TimeMachine();
        c.same("assemble of <" + text + ">", Checks.assemble(x, 0, text + "\n.space 9"), 0);
        String image = Checks.image(x, 0);
        c.same("bytes behind <" + text + ">", image.substring(image.length() - 18), "0".repeat(18));
    }

    private static void check(String name, List<String> tokens) {
        List<String> line = new ArrayList<>();
        for (String token : tokens) {
            line.add(good(token));
        }
        fault(joined(name, line), 0);
        nothingBehind(joined(name, line));
        for (String more : new String[] {"a3", "8", ",", ")", "@", "\"b\"", "nop"}) {
            fault(joined(name, line) + " " + more, 1);
        }
        for (int k = 0; k < tokens.size(); k++) {
            // A list may end behind each of its parts, and jalr behind its first register.
            boolean whole = tokens.get(k).equals(",") && name.matches("\\.(byte|half|word|asci[iz])|jalr");
            fault(joined(name, line.subList(0, k)), whole ? 0 : 1);
            boolean first = k == 0 && name.equals("jal") && tokens.size() > 1;
            wrong(name, line, k, tokens.get(k), first);
        }
    }

    /** The first operand of jal is an e, if it is no register's name. */
    private static void wrong(String name, List<String> line, int k, String token, boolean jal) {
        List<String> it = new ArrayList<>(line);
        for (String bad : new String[] {"@", "\"open", "'", "0x", "<"}) {
            it.set(k, bad);
            fault(joined(name, it), 1);
        }
        for (String other : new String[] {"(", ")", "\"b\""}) {
            it.set(k, other);
            boolean fits = other.equals(token) || other.startsWith("\"") && token.startsWith("\"");
            fault(joined(name, it), fits ? 0 : isRegister(token) && !jal ? 3 : 1);
        }
        if (isRegister(token)) {
            for (String other : new String[] {"foo", "5", "x32", "a8", ")"}) {
                it.set(k, other);
                fault(joined(name, it), jal ? 1 : 3);
            }
        }
        if (isNumber(token)) {
            it.set(k, "foo");
            boolean fixed = name.matches("li|\\.equ|\\.space|\\.align");
            fault(joined(name, it), fixed ? 5 : 8);
            it.set(k, "1 / 0");
            fault(joined(name, it), 9);
            it.set(k, "(8");
            fault(joined(name, it), 1);
        }
    }
}
