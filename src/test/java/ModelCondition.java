import java.util.ArrayList;
import java.util.HashMap;
import java.util.List;
import java.util.Map;

/** The model's conditions: a tree, read by going down from what binds least. */
final class ModelCondition {
    private static final class Fault extends RuntimeException {
        final int code;

        Fault(int kind, int place) {
            code = kind + 8 * place;
        }
    }

    private static final class Failed extends RuntimeException {
        Failed() {
            super(null, null, false, false);
        }
    }

    private record Token(String kind, String text, int place, long number) {
    }

    private record Tree(String op, long number, List<Tree> parts) {
    }

    private static final String[][] RANKS = {{"||"}, {"&&"}, {"==", "!=", "<", "<=", ">", ">="}, {"|"}, {"^"}, {"&"},
        {"<<", ">>"}, {"+", "-"}, {"*", "/", "%"}};
    private static final String[] SIGNS = {"||", "&&", "==", "!=", "<=", ">=", "<<", ">>", "<", ">", "|", "^", "&", "+", "-",
        "*", "/", "%", "!", "~", "(", ")", "[", "]"};

    private String source;
    private int at;
    private Token token;
    private int parts;
    private int open;
    private int olds;
    private Tree tree;
    private final List<Tree> remembered = new ArrayList<>();
    private final Map<Tree, Long> before = new java.util.IdentityHashMap<>();

    /** 0, or the fault + 8 * its place. */
    int compile(byte[] tape) {
        for (int i = 0; i < tape.length; i++) {
            if (i == 120 || tape[i] < 32 || tape[i] > 126) {
                return 1 + 8 * i;
            }
        }
        source = new String(tape, java.nio.charset.StandardCharsets.ISO_8859_1);
        try {
            next();
            tree = sorted(0);
            if (!token.kind.equals("end")) {
                throw new Fault(1, token.place);
            }
            return 0;
        } catch (Fault fault) {
            return fault.code;
        }
    }

    private void next() {
        while (at < source.length() && source.charAt(at) == ' ') {
            at++;
        }
        int from = at;
        if (at == source.length()) {
            token = new Token("end", "", at, 0);
            return;
        }
        while (at < source.length() && Character.isLetterOrDigit(source.charAt(at))) {
            at++;
        }
        if (at > from) {
            token = word(source.substring(from, at), from);
            return;
        }
        for (String sign : SIGNS) {
            if (source.startsWith(sign, at)) {
                at += sign.length();
                token = new Token("sign", sign, from, 0);
                return;
            }
        }
        token = new Token("bad", "", from, 0);
    }

    private static Token word(String s, int from) {
        if (Character.isLetter(s.charAt(0))) {
            return new Token("word", s, from, 0);
        }
        boolean hex = s.matches("0x[0-9a-f]+");
        if (!hex && !s.matches("[0-9]+")) {
            return new Token("bad", s, from, 0);
        }
        java.math.BigInteger v = hex ? new java.math.BigInteger(s.substring(2), 16) : new java.math.BigInteger(s);
        return new Token(v.bitLength() > 32 ? "bad" : "number", s, from, v.longValue());
    }

    private void part() {
        parts++;
        if (parts > 40) {
            throw new Fault(3, token.place);
        }
    }

    private boolean is(String sign) {
        return token.kind.equals("sign") && token.text.equals(sign);
    }

    private Tree sorted(int rank) {
        if (rank == RANKS.length) {
            return single();
        }
        Tree left = sorted(rank + 1);
        boolean more = true;
        while (more) {
            more = false;
            for (String sign : RANKS[rank]) {
                if (!more && is(sign)) {
                    part();
                    next();
                    left = new Tree(sign, 0, List.of(left, sorted(rank + 1)));
                    more = true;
                }
            }
        }
        return left;
    }

    private Tree single() {
        if (is("!") || is("-") || is("~")) {
            String op = "u" + token.text;
            part();
            next();
            return new Tree(op, 0, List.of(single()));
        }
        if (token.kind.equals("number")) {
            part();
            long v = token.number;
            next();
            return new Tree("number", v, List.of());
        }
        if (token.kind.equals("word")) {
            return worded();
        }
        if (is("(")) {
            return within("(", ")", "()");
        }
        if (is("[")) {
            return within("[", "]", "word");
        }
        throw new Fault(1, token.place);
    }

    private Tree within(String opening, String closing, String op) {
        if (!is(opening)) {
            throw new Fault(1, token.place);
        }
        part();
        if (open == 8) {
            throw new Fault(4, token.place);
        }
        open++;
        next();
        Tree inner = sorted(0);
        if (!is(closing)) {
            throw new Fault(1, token.place);
        }
        open--;
        next();
        return new Tree(op, 0, List.of(inner));
    }

    private Tree worded() {
        String s = token.text;
        if (s.matches("x([0-9]|[12][0-9]|3[01])") || s.equals("pc")) {
            part();
            next();
            return new Tree("register", s.equals("pc") ? 32 : Integer.parseInt(s.substring(1)), List.of());
        }
        if (s.equals("pid") || s.equals("count")) {
            part();
            next();
            return new Tree(s, 0, List.of());
        }
        if (s.equals("byte") || s.equals("half")) {
            part();
            next();
            return within("[", "]", s);
        }
        if (!s.equals("old") && !s.equals("changed")) {
            throw new Fault(2, token.place);
        }
        if (olds > 0) {
            throw new Fault(1, token.place);
        }
        part();
        next();
        olds++;
        Tree made = within("(", ")", s);
        olds--;
        remembered.add(made);
        return made;
    }

    // ---- values

    /** The machine is that of the count before. */
    void remember(ModelMachine machine, int count) {
        before.clear();
        for (Tree it : remembered) {
            long v;
            try {
                v = work(it.parts.get(0), machine, count);
            } catch (Failed failed) {
                v = 0;
            }
            before.put(it, v);
        }
    }

    long value(ModelMachine machine, int count) {
        try {
            return work(tree, machine, count);
        } catch (Failed failed) {
            return 0;
        }
    }

    private long work(Tree it, ModelMachine machine, int count) {
        int current = machine.current;
        switch (it.op) {
            case "number":
                return it.number;
            case "register":
                return current < 0 ? 0 : machine.processes[current].x[(int) it.number];
            case "pid":
                return current;
            case "count":
                return count;
            case "old":
                return before.get(it);
            default:
                break;
        }
        long a = work(it.parts.get(0), machine, count);
        switch (it.op) {
            case "()":
                return a;
            case "u!":
                return a == 0 ? 1 : 0;
            case "u-":
                return -a;
            case "u~":
                return ~a;
            case "changed":
                return a == before.get(it) ? 0 : 1;
            case "word":
                return memory(machine, a, 4);
            case "half":
                return (short) memory(machine, a, 2);
            case "byte":
                return memory(machine, a, 1);
            case "||":
                return a != 0 || work(it.parts.get(1), machine, count) != 0 ? 1 : 0;
            case "&&":
                return a != 0 && work(it.parts.get(1), machine, count) != 0 ? 1 : 0;
            default:
                return joined(it.op, a, work(it.parts.get(1), machine, count));
        }
    }

    private static int memory(ModelMachine machine, long a, int n) {
        if (machine.current < 0 || a < 0 || a > 65535 || a % n != 0) {
            throw new Failed();
        }
        ModelMachine.Process p = machine.processes[machine.current];
        if (p.frame[(int) a / 1024] == null) {
            throw new Failed();
        }
        return ModelMachine.some(p, (int) a, n);
    }

    private static long joined(String op, long a, long b) {
        Map<String, Boolean> truths = new HashMap<>();
        truths.put("==", a == b);
        truths.put("!=", a != b);
        truths.put("<", a < b);
        truths.put("<=", a <= b);
        truths.put(">", a > b);
        truths.put(">=", a >= b);
        if (truths.containsKey(op)) {
            return truths.get(op) ? 1 : 0;
        }
        switch (op) {
            case "|":
                return a | b;
            case "^":
                return a ^ b;
            case "&":
                return a & b;
            case "<<":
                return a << (b & 63);
            case ">>":
                return a >> (b & 63);
            case "+":
                return a + b;
            case "-":
                return a - b;
            case "*":
                return a * b;
            default:
                if (b == 0) {
                    throw new Failed();
                }
                return op.equals("/") ? a / b : a % b;
        }
    }
}
