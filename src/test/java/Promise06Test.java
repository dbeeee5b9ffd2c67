/** Promise 6, fault: "The place of the FAULT of the latest clock() or refit(); NONE without." */
public final class Promise06Test {
    private Promise06Test() {
    }

    public static void main(String[] args) {
        atFirst();
        ofTheLatest();
        noneWithout();
        noneOfANinth();
        ofRefit();
        notOfRefusedCalls();
        fromTheFirstByteToTheLength();
        Due.end();
    }

    private static void atFirst() {
        Due.is("at first", new ClockKeeper().fault(), -1);
    }

    // "of the latest"
    private static void ofTheLatest() {
        ClockKeeper k = new ClockKeeper();
        Due.clock(k, 0, 0, "run 0;");
        Due.is("the first", k.fault(), 4);
        Due.clock(k, 0, 0, "strokes 0;");
        Due.is("the second", k.fault(), 8);
        Due.is("asked again", k.fault(), 8);
        k.wait(60);
        k.feed(0, 0, 0, 0, 0);
        Due.is("behind other calls", k.fault(), 8);
    }

    // "NONE without."
    private static void noneWithout() {
        ClockKeeper k = new ClockKeeper();
        Due.clock(k, 0, 0, "x");
        Due.is("a FAULT at 0", k.fault(), 0);
        k.clock(0, 0, 0);
        Due.is("none behind it", k.fault(), -1);
        Due.clock(k, 0, 0, "x");
        for (int i = 1; i < 8; i++) {
            k.clock(0, 0, 0);
        }
        Due.refit(k, 0, "  x");
        Due.is("a FAULT at 2", k.fault(), 2);
        Due.is("a ninth", k.clock(0, 0, 0), -1);
        Due.is("there are 8, but no FAULT", k.fault(), -1);
    }

    // "of the latest clock()": one that answers -1, since there are 8, has told no FAULT, whatever its TEXT is
    private static void noneOfANinth() {
        ClockKeeper k = new ClockKeeper();
        for (int i = 0; i < 8; i++) {
            k.clock(0, 0, 0);
        }
        Due.is("a faulty ninth", Due.clock(k, 0, 0, "run 0;"), -1);
        Due.is("behind none", k.fault(), -1);
        Due.refit(k, 0, "  x");
        Due.is("of a refit", k.fault(), 2);
        Due.is("a faulty ninth", Due.clock(k, 0, 0, "run 0;"), -1);
        Due.is("behind that of a refit", k.fault(), -1);
    }

    // "or refit()"
    private static void ofRefit() {
        ClockKeeper k = Due.with("");
        Due.refit(k, 0, "run 8;bell;");
        Due.is("of a refit", k.fault(), 6);
        Due.refit(k, 0, "run 8;");
        Due.is("none", k.fault(), -1);
        Due.clock(k, 0, 0, "run 8;run");
        Due.is("of a clock", k.fault(), 9);
        Due.refit(k, 0, "");
        Due.is("none", k.fault(), -1);
    }

    // a call that is refused by an exception read no TEXT
    private static void notOfRefusedCalls() {
        ClockKeeper k = Due.with("");
        Due.refit(k, 0, "run 8;bell;");
        Due.feed(k, "x");
        Due.refused("a place outside", Due.ARGUMENT, () -> k.clock(100, 0, 1));
        Due.refused("too many bytes", Due.ARGUMENT, () -> k.clock(0, 0, 21));
        Due.refused("no such CLOCK", Due.ELEMENT, () -> k.refit(1, 1));
        Due.refused("too many bytes", Due.ARGUMENT, () -> k.refit(0, 21));
        Due.is("the place stays", k.fault(), 6);
    }

    private static void fromTheFirstByteToTheLength() {
        ClockKeeper k = new ClockKeeper();
        Due.clock(k, 0, 0, "?" + " ".repeat(399));
        Due.is("at the first byte", k.fault(), 0);
        Due.clock(k, 0, 0, " ".repeat(399) + "?");
        Due.is("at the last byte", k.fault(), 399);
        Due.clock(k, 0, 0, " ".repeat(395) + "run 8");
        Due.is("at the length", k.fault(), 400);
    }
}
