/** What the assembler makes of a text, asked of an object of its own each time. */
final class Texts {
    private final Checks c;

    Texts(Checks c) {
        this.c = c;
    }

    /** The bytes that a text becomes, two hexadecimal digits each. */
    void makes(String text, String due) {
        TimeMachine x = fine(text);
        c.same("image of <" + text + ">", Checks.image(x, 0), due);
    }

    /** The number that an e is. */
    void word(String e, int due) {
        TimeMachine x = fine(".word " + e);
        int got = x.image(0, 0) | x.image(0, 1) << 8 | x.image(0, 2) << 16 | x.image(0, 3) << 24;
        c.same(".word " + e, got, due);
    }

    void fault(String text, int fault, int line) {
        TimeMachine x = new TimeMachine();
        c.same("fault of <" + text + ">", Checks.assemble(x, 0, text), fault + 16 * line);
        c.same("program behind a fault", x.program(0, 0), -1);
        c.same("tape behind a fault", x.count(15), 0);
    }

    /** Texts of one line, each with this fault. */
    void faults(int fault, String... lines) {
        for (String line : lines) {
            fault(line, fault, 1);
        }
    }

    TimeMachine fine(String text) {
        TimeMachine x = new TimeMachine();
        c.same("fault of <" + text + ">", Checks.assemble(x, 0, text), 0);
        return x;
    }

    void allFine(String... texts) {
        for (String text : texts) {
            fine(text);
        }
    }

    /** The size of a text's section .text. */
    int size(String text) {
        return fine(text).program(0, 0);
    }

    /** The text of the instruction that stands at an address of a program that is booted. */
    void reads(String text, int address, String due) {
        TimeMachine x = fine(text);
        x.boot(0);
        c.same("text at " + address + " of <" + text + ">", Checks.text(x, 0, address), due);
    }
}
