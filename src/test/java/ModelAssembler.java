import java.util.ArrayList;
import java.util.HashMap;
import java.util.List;
import java.util.Map;

/** The model's assembler: each line becomes tokens, then a statement with trees of its expressions. */
final class ModelAssembler {
    /** What ends it. */
    private static final class Fault extends RuntimeException {
        final int code;

        Fault(int code) {
            this.code = code;
        }
    }

    /** A program that was assembled. */
    static final class Program {
        int textSize;
        int dataStart;
        int constants;
        byte[] image = new byte[0];
        int[] lines = new int[0];
        final List<Integer> labels = new ArrayList<>();
    }

    private record Token(String kind, String text, int number) {
        boolean is(String sign) {
            return kind.equals("sign") && text.equals(sign);
        }
    }

    /** An expression: op is "number", "name", "here", "near", a sign, or "u-", "u~", "hi", "lo". */
    private record Tree(String op, int number, String name, Tree left, Tree right) {
        static Tree of(String op, Tree left, Tree right) {
            return new Tree(op, 0, "", left, right);
        }
    }

    private record Label(String name, boolean near, int section, int before) {
    }

    private static final class Statement {
        int line;
        int section;
        int order;
        int length;
        int address;
        int labelsAbove;
        // align, space, list, text, plain, jump, branch, la
        String sort = "";
        int bits;
        int each;
        char letter;
        byte[] bytes = new byte[0];
        List<Tree> trees = new ArrayList<>();
    }

    private static final Token END = new Token("end", "", 0);
    private static final String[][] RANKS = {{"|"}, {"^"}, {"&"}, {"<<", ">>"}, {"+", "-"}, {"*", "/", "%"}};

    private final List<Label> labels = new ArrayList<>();
    private final Map<String, Integer> constants = new HashMap<>();
    private final Map<String, Integer> named = new HashMap<>();
    private final List<Statement> statements = new ArrayList<>();
    private int[] addresses = new int[0];
    private int textSize;
    private int dataStart;
    private int size;
    private int line;
    private int section;
    private List<Token> tokens = new ArrayList<>();
    private int at;
    private boolean fixed;

    Program made;

    /** 0, or the fault + 16 * its line. */
    int assemble(byte[] tape) {
        line = 1;
        for (byte c : tape) {
            if (c == 10) {
                line++;
            } else if (c != 9 && (c < 32 || c > 126)) {
                return 1 + 16 * line;
            }
        }
        String[] lines = new String(tape, java.nio.charset.StandardCharsets.ISO_8859_1).split("\n", -1);
        try {
            for (line = 1; line <= lines.length; line++) {
                tokens = tokensOf(lines[line - 1]);
                at = 0;
                readLine();
            }
            layOut();
            if (size > 32768) {
                return 7;
            }
            made = put();
            return 0;
        } catch (Fault fault) {
            return fault.code + 16 * line;
        }
    }

    // ---- tokens

    private static boolean ofName(char c) {
        return Character.isLetterOrDigit(c) || c == '_' || c == '.' || c == '$';
    }

    private static List<Token> tokensOf(String s) {
        List<Token> all = new ArrayList<>();
        int i = 0;
        while (i < s.length()) {
            char c = s.charAt(i);
            if (c == ' ' || c == '\t') {
                i++;
            } else if (c == '#') {
                break;
            } else {
                int to = i;
                while (to < s.length() && ofName(s.charAt(to))) {
                    to++;
                }
                if (to > i) {
                    all.add(wordToken(s.substring(i, to)));
                } else if (c == '"' || c == '\'') {
                    to = quoteToken(s, i, c, all);
                } else {
                    boolean two = s.startsWith("<<", i) || s.startsWith(">>", i);
                    String sign = two ? s.substring(i, i + 2) : String.valueOf(c);
                    to = i + sign.length();
                    all.add(new Token(two || ":,()+-*/%&|^~".contains(sign) ? "sign" : "bad", sign, 0));
                }
                i = to;
            }
            if (!all.isEmpty() && all.get(all.size() - 1).kind.equals("bad")) {
                break;
            }
        }
        all.add(END);
        return all;
    }

    private static Token wordToken(String s) {
        if (!Character.isDigit(s.charAt(0))) {
            return new Token(s.length() <= 31 ? "name" : "bad", s, 0);
        }
        if (s.matches("[0-9][fb]")) {
            return new Token("near", s, s.charAt(0) - '0');
        }
        java.math.BigInteger v;
        if (s.matches("[0-9]+")) {
            v = new java.math.BigInteger(s);
        } else if (s.matches("0x[0-9a-fA-F]+")) {
            v = new java.math.BigInteger(s.substring(2), 16);
        } else if (s.matches("0b[01]+")) {
            v = new java.math.BigInteger(s.substring(2), 2);
        } else {
            return new Token("bad", s, 0);
        }
        return v.bitLength() <= 32 ? new Token("number", s, v.intValue()) : new Token("bad", s, 0);
    }

    private static int quoteToken(String s, int from, char quote, List<Token> all) {
        StringBuilder out = new StringBuilder();
        int i = from + 1;
        while (i < s.length() && s.charAt(i) != quote) {
            char c = s.charAt(i);
            if (c == '\\') {
                i++;
                int k = i < s.length() ? "nt0\\'\"".indexOf(s.charAt(i)) : -1;
                if (k < 0) {
                    all.add(new Token("bad", "", 0));
                    return s.length();
                }
                c = "\n\t\0\\'\"".charAt(k);
            }
            out.append(c);
            i++;
        }
        boolean closed = i < s.length();
        if (quote == '"') {
            all.add(new Token(closed ? "text" : "bad", out.toString(), 0));
        } else {
            boolean good = closed && out.length() == 1 && (i + 1 >= s.length() || !ofName(s.charAt(i + 1)));
            all.add(new Token(good ? "number" : "bad", "'", good ? out.charAt(0) : 0));
        }
        return i + 1;
    }

    // ---- lines

    private Token token() {
        return tokens.get(Math.min(at, tokens.size() - 1));
    }

    private void readLine() {
        while (token() != END) {
            Token it = token();
            boolean digit = it.kind.equals("number") && it.text.matches("[0-9]");
            if (!it.kind.equals("name") && !digit) {
                throw new Fault(1);
            }
            at++;
            if (!token().is(":")) {
                if (digit) {
                    throw new Fault(1);
                }
                readStatement(it.text);
                if (token() != END) {
                    throw new Fault(1);
                }
                return;
            }
            at++;
            if (!digit) {
                mayDefine(it.text);
                named.put(it.text, labels.size());
            }
            labels.add(new Label(it.text, digit, section, statements.size()));
        }
    }

    private void mayDefine(String name) {
        if (ModelFields.registerNamed(name) >= 0 || constants.containsKey(name) || named.containsKey(name)) {
            throw new Fault(4);
        }
    }

    private void readStatement(String name) {
        Statement s = new Statement();
        s.line = line;
        s.section = section;
        s.labelsAbove = labels.size();
        switch (name) {
            case ".text":
                section = 0;
                return;
            case ".data":
                section = 1;
                return;
            case ".equ":
                constant();
                return;
            case ".byte":
            case ".half":
            case ".word":
                s.sort = "list";
                s.each = name.equals(".byte") ? 1 : name.equals(".half") ? 2 : 4;
                do {
                    s.trees.add(expression());
                } while (passes(","));
                s.length = s.each * s.trees.size();
                break;
            case ".ascii":
            case ".asciz":
                texts(s, name.equals(".asciz"));
                break;
            case ".space":
                s.sort = "space";
                s.length = fixedFrom(0, 32768);
                break;
            case ".align":
                s.sort = "align";
                s.each = 1 << fixedFrom(0, 10);
                break;
            default:
                instruction(s, name);
                break;
        }
        statements.add(s);
    }

    private boolean passes(String sign) {
        if (token().is(sign)) {
            at++;
            return true;
        }
        return false;
    }

    private void must(String sign) {
        if (!passes(sign)) {
            throw new Fault(1);
        }
    }

    private void constant() {
        if (!token().kind.equals("name")) {
            throw new Fault(1);
        }
        String name = token().text;
        mayDefine(name);
        at++;
        must(",");
        constants.put(name, fixedFrom(Integer.MIN_VALUE, Integer.MAX_VALUE));
    }

    private void texts(Statement s, boolean ended) {
        StringBuilder all = new StringBuilder();
        do {
            if (!token().kind.equals("text")) {
                throw new Fault(1);
            }
            all.append(token().text).append(ended ? "\0" : "");
            at++;
        } while (passes(","));
        s.sort = "text";
        s.bytes = all.toString().getBytes(java.nio.charset.StandardCharsets.ISO_8859_1);
        s.length = s.bytes.length;
    }

    private int fixedFrom(int least, int most) {
        fixed = true;
        Tree tree = expression();
        if (!fixed) {
            throw new Fault(5);
        }
        int v = worth(tree, null);
        if (v < least || v > most) {
            throw new Fault(6);
        }
        return v;
    }

    private int register(ModelFields.Field field) {
        Token it = token();
        if (it == END || it.kind.equals("bad")) {
            throw new Fault(1);
        }
        int r = it.kind.equals("name") ? ModelFields.registerNamed(it.text) : -1;
        if (r < 0 || !field.fits(r)) {
            throw new Fault(3);
        }
        at++;
        return r;
    }

    private boolean atRegister() {
        return token().kind.equals("name") && ModelFields.registerNamed(token().text) >= 0;
    }

    private static ModelFields.Line lineNamed(String name) {
        for (ModelFields.Line it : ModelFields.LINES) {
            if (it.name().equals(name)) {
                return it;
            }
        }
        return null;
    }

    private void instruction(Statement s, String name) {
        ModelFields.Line it = lineNamed(name);
        if (name.equals("jal") && !atRegister()) {
            other(s, "call", ModelFields.OTHERS.get("call"));
        } else if (name.equals("jalr")) {
            linked(s, it);
        } else if (it != null) {
            plain(s, it);
            if ((it.bits() & 127) == 99) {
                s.sort = "branch";
            }
        } else if (ModelFields.OTHERS.containsKey(name)) {
            other(s, name, ModelFields.OTHERS.get(name));
        } else if (name.equals("la") || name.equals("li")) {
            loads(s, name);
        } else {
            throw new Fault(2);
        }
    }

    private void linked(Statement s, ModelFields.Line it) {
        int start = at;
        int d = register(ModelFields.FIELDS.get('d'));
        if (token() == END) {
            s.sort = "plain";
            s.bits = 103 | 1 << 7 | d << 15;
            s.length = 4;
            return;
        }
        at = start;
        plain(s, it);
    }

    private void plain(Statement s, ModelFields.Line it) {
        s.sort = "plain";
        s.bits = it.bits();
        s.length = (it.bits() & 3) == 3 ? 4 : 2;
        for (char c : it.operands().toCharArray()) {
            ModelFields.Field field = ModelFields.FIELDS.get(c);
            if (field == null) {
                must(String.valueOf(c));
            } else if (field.register()) {
                s.bits |= field.place(register(field));
            } else {
                s.letter = c;
                s.trees.add(expression());
            }
        }
    }

    /** What is short for another line: its operands are read, then put where that one has them. */
    private void other(Statement s, String name, ModelFields.Line it) {
        Map<String, Integer> given = new HashMap<>();
        for (char c : it.operands().toCharArray()) {
            if (c == ',') {
                must(",");
            } else if (c == 't') {
                s.trees.add(expression());
            } else {
                given.put(String.valueOf(c), register(ModelFields.FIELDS.get(c)));
            }
        }
        String[] words = it.name().split(" ");
        ModelFields.Line base = lineNamed(words[0]);
        s.sort = "plain";
        s.length = 4;
        s.bits = base.bits();
        int k = 1;
        for (char c : base.operands().toCharArray()) {
            ModelFields.Field field = ModelFields.FIELDS.get(c);
            if (field == null) {
                continue;
            }
            String word = words[k];
            k++;
            if (field.register()) {
                s.bits |= field.place(given.containsKey(word) ? given.get(word) : ModelFields.registerNamed(word));
            } else if (!word.equals("t")) {
                s.bits |= field.place(Integer.parseInt(word));
            }
        }
        if (words[0].equals("jal")) {
            s.sort = "jump";
            s.length = 2;
        } else if ((base.bits() & 127) == 99) {
            s.sort = "branch";
            boolean small = (name.equals("beqz") || name.equals("bnez")) && given.get("a") >= 8 && given.get("a") <= 15;
            s.length = small ? 2 : 4;
        }
    }

    private void loads(Statement s, String name) {
        int d = register(ModelFields.FIELDS.get('d'));
        must(",");
        if (name.equals("la")) {
            s.sort = "la";
            s.bits = d;
            s.length = 8;
            s.trees.add(expression());
            return;
        }
        int v = fixedFrom(Integer.MIN_VALUE, Integer.MAX_VALUE);
        String text;
        String r = ModelFields.NAMES[d];
        if (v >= -32 && v <= 31 && d != 0) {
            text = "c.li " + r + ", " + v;
        } else if (v >= -2048 && v <= 2047) {
            text = "addi " + r + ", zero, " + v;
        } else {
            int low = v << 20 >> 20;
            text = "lui " + r + ", " + (v + 2048 >>> 12) + (low == 0 ? "" : "\naddi " + r + ", " + r + ", " + low);
        }
        ModelAssembler inner = new ModelAssembler();
        inner.assemble(text.getBytes(java.nio.charset.StandardCharsets.ISO_8859_1));
        s.sort = "text";
        s.bytes = inner.made.image;
        s.length = s.bytes.length;
    }

    // ---- expressions

    private Tree expression() {
        return sorted(0);
    }

    private Tree sorted(int rank) {
        if (rank == RANKS.length) {
            return single();
        }
        Tree left = sorted(rank + 1);
        boolean more = true;
        while (more) {
            more = false;
            for (String sign : RANKS[rank]) {
                if (!more && token().is(sign)) {
                    at++;
                    left = Tree.of(sign, left, sorted(rank + 1));
                    more = true;
                }
            }
        }
        return left;
    }

    private Tree single() {
        Token it = token();
        at++;
        if (it.is("-") || it.is("~")) {
            return Tree.of("u" + it.text, single(), null);
        }
        if (it.is("%")) {
            String half = token().text;
            if (!token().kind.equals("name") || !half.equals("hi") && !half.equals("lo")) {
                throw new Fault(1);
            }
            at++;
            if (!token().is("(")) {
                throw new Fault(1);
            }
            return Tree.of(half, single(), null);
        }
        if (it.is("(")) {
            Tree inner = expression();
            must(")");
            return inner;
        }
        switch (it.kind) {
            case "number":
                return new Tree("number", it.number, "", null, null);
            case "near":
                fixed = false;
                return new Tree("near", it.number, it.text, null, null);
            case "name":
                if (it.text.equals(".")) {
                    fixed = false;
                    return Tree.of("here", null, null);
                }
                fixed = fixed && constants.containsKey(it.text);
                return new Tree("name", 0, it.text, null, null);
            default:
                at--;
                throw new Fault(1);
        }
    }

    /** Fault 8 is asked of all of it first, then fault 9. */
    private int worth(Tree tree, Statement s) {
        askNames(tree, s);
        return value(tree, s);
    }

    private void askNames(Tree tree, Statement s) {
        if (tree == null) {
            return;
        }
        if (tree.op.equals("near") && nearLabel(tree, s) < 0
                || tree.op.equals("name") && !constants.containsKey(tree.name) && !named.containsKey(tree.name)) {
            throw new Fault(8);
        }
        askNames(tree.left, s);
        askNames(tree.right, s);
    }

    private int nearLabel(Tree tree, Statement s) {
        int found = -1;
        for (int k = 0; k < labels.size(); k++) {
            Label it = labels.get(k);
            if (it.near && it.name.charAt(0) - '0' == tree.number) {
                if (k < s.labelsAbove && tree.name.endsWith("b")) {
                    found = k;
                } else if (k >= s.labelsAbove && tree.name.endsWith("f")) {
                    return k;
                }
            }
        }
        return found;
    }

    private int value(Tree tree, Statement s) {
        switch (tree.op) {
            case "number":
                return tree.number;
            case "here":
                return s.address;
            case "near":
                return addresses[nearLabel(tree, s)];
            case "name":
                return constants.containsKey(tree.name) ? constants.get(tree.name) : addresses[named.get(tree.name)];
            default:
                break;
        }
        int a = value(tree.left, s);
        int b = tree.right == null ? 0 : value(tree.right, s);
        switch (tree.op) {
            case "u-":
                return -a;
            case "u~":
                return ~a;
            case "hi":
                return a + 2048 >>> 12;
            case "lo":
                return a << 20 >> 20;
            case "*":
                return a * b;
            case "+":
                return a + b;
            case "-":
                return a - b;
            case "<<":
                return a << (b & 31);
            case ">>":
                return a >> (b & 31);
            case "&":
                return a & b;
            case "^":
                return a ^ b;
            case "|":
                return a | b;
            default:
                if (b == 0) {
                    throw new Fault(9);
                }
                return tree.op.equals("/") ? a / b : a % b;
        }
    }

    // ---- laying out

    private void layOut() {
        boolean again = true;
        while (again) {
            addressAll();
            List<Statement> growing = new ArrayList<>();
            for (Statement s : statements) {
                if (canGrow(s)) {
                    growing.add(s);
                }
            }
            for (Statement s : growing) {
                s.length *= 2;
            }
            again = !growing.isEmpty();
        }
    }

    private boolean canGrow(Statement s) {
        if (!(s.sort.equals("jump") && s.length == 2 || s.sort.equals("branch") && s.length < 8)) {
            return false;
        }
        int offset;
        try {
            offset = worth(s.trees.get(0), s) - s.address;
        } catch (Fault fault) {
            return false;
        }
        char letter = s.length == 4 ? 'T' : s.sort.equals("jump") ? 'K' : 'L';
        return !ModelFields.FIELDS.get(letter).fits(offset);
    }

    private void addressAll() {
        int[] used = new int[2];
        addresses = new int[labels.size()];
        int k = 0;
        for (int i = 0; i <= statements.size(); i++) {
            while (k < labels.size() && labels.get(k).before == i) {
                addresses[k] = used[labels.get(k).section];
                k++;
            }
            if (i < statements.size()) {
                Statement s = statements.get(i);
                s.address = used[s.section];
                if (s.sort.equals("align")) {
                    s.length = Math.floorMod(-s.address, s.each);
                }
                used[s.section] += s.length;
            }
        }
        textSize = used[0];
        dataStart = textSize;
        while (dataStart % 1024 != 0) {
            dataStart++;
        }
        size = used[1] == 0 ? textSize : dataStart + used[1];
        for (Statement s : statements) {
            s.address += s.section * dataStart;
        }
        for (int i = 0; i < addresses.length; i++) {
            addresses[i] += labels.get(i).section * dataStart;
        }
    }

    private Program put() {
        Program out = new Program();
        out.textSize = textSize;
        out.dataStart = dataStart;
        out.constants = constants.size();
        out.image = new byte[size];
        out.lines = new int[size];
        for (Statement s : statements) {
            line = s.line;
            byte[] bytes = bytesOf(s);
            for (int i = 0; i < s.length; i++) {
                out.image[s.address + i] = i < bytes.length ? bytes[i] : 0;
                out.lines[s.address + i] = s.line;
            }
        }
        for (int i = 0; i < addresses.length; i++) {
            if (!labels.get(i).near) {
                out.labels.add(addresses[i]);
            }
        }
        return out;
    }

    private byte[] bytesOf(Statement s) {
        java.io.ByteArrayOutputStream out = new java.io.ByteArrayOutputStream();
        switch (s.sort) {
            case "list":
                for (Tree tree : s.trees) {
                    write(out, s.each, worth(tree, s));
                }
                return out.toByteArray();
            case "plain":
                write(out, s.length, s.bits | (s.trees.isEmpty() ? 0 : checked(s.letter, s, 0)));
                return out.toByteArray();
            case "jump":
                if (s.length == 4) {
                    write(out, 4, s.bits | checked('J', s, 0));
                } else {
                    write(out, 2, (s.bits >> 7 == 0 ? 5 << 13 : 1 << 13) | 1 | checked('K', s, 0));
                }
                return out.toByteArray();
            case "branch":
                branch(out, s);
                return out.toByteArray();
            case "la":
                int offset = worth(s.trees.get(0), s) - s.address;
                write(out, 4, 23 | s.bits << 7 | (offset + 2048 >>> 12) << 12);
                write(out, 4, 19 | s.bits << 7 | s.bits << 15 | (offset & 4095) << 20);
                return out.toByteArray();
            default:
                return s.bytes;
        }
    }

    private void branch(java.io.ByteArrayOutputStream out, Statement s) {
        if (s.length == 2) {
            int f = (s.bits >> 12 & 1) == 0 ? 6 : 7;
            write(out, 2, 1 | f << 13 | ((s.bits >> 15 & 31) - 8) << 7 | checked('L', s, 0));
        } else if (s.length == 4) {
            write(out, 4, s.bits | checked('T', s, 0));
        } else {
            write(out, 4, s.bits ^ 1 << 12 | ModelFields.FIELDS.get('T').place(8));
            write(out, 4, 111 | checked('J', s, 4));
        }
    }

    private int checked(char letter, Statement s, int further) {
        ModelFields.Field field = ModelFields.FIELDS.get(letter);
        int v = worth(s.trees.get(0), s);
        if (field.target()) {
            v -= s.address + further;
        }
        if (!field.fits(v)) {
            throw new Fault(10);
        }
        return field.place(v);
    }

    private static void write(java.io.ByteArrayOutputStream out, int n, int bits) {
        for (int i = 0; i < n; i++) {
            out.write(bits >> 8 * i);
        }
    }
}
