/** Promises 9 to 12: type, clearText, run, undo. */
public final class OrdersTest {
    public static void main(String[] args) {
        type();
        clearText();
        faults();
        faultsAfterAnOrder();
        anySignIsAFault();
        run();
        runStopsAtAnError();
        runUntracked();
        runIsOneAct();
        undo();
        historyOfFour();
        textIsNoState();
        Due.finish();
    }

    private static int write(TrackedTable x, String text) {
        x.clearText();
        for (int i = 0; i < text.length(); i++) {
            x.type(text.charAt(i));
        }
        return x.count(10);
    }

    private static int runText(TrackedTable x, int author, String text) {
        write(x, text);
        return x.run(author);
    }

    private static void type() {
        TrackedTable x = new TrackedTable();
        for (int i = 1; i <= 60; i++) {
            Due.is("P9 length " + i, x.type(i % 2 == 0 ? (char) 0 : (char) 65535), i);
        }
        Due.is("P9 full", x.type('a'), -3);
        Due.is("P9 still 60", x.count(10), 60);
        Due.is("P9 no act", x.count(9), 0);
    }

    private static void clearText() {
        TrackedTable x = new TrackedTable();
        Due.is("P10 empty", x.clearText(), 0);
        write(x, "+r0");
        Due.is("P10 three", x.clearText(), 3);
        Due.is("P10 cleared", x.clearText(), 0);
        Due.is("P10 typed again", x.type('+'), 1);
        Due.is("P10 no act", x.count(9), 0);
        Due.is("P10 old signs are gone", x.run(0), -101);
    }

    private static void fault(String text, int fault) {
        TrackedTable x = new TrackedTable();
        Due.is("P11 fault of \"" + text + "\"", runText(x, 0, text), -100 - fault);
        Due.is("P11 no act by \"" + text + "\"", x.count(9), 0);
        Due.is("P11 text stays \"" + text + "\"", x.count(10), text.length());
    }

    private static void faults() {
        fault("", 0);
        fault(" ", 0);
        fault("r", 0);
        fault("+", 1);
        fault("-", 1);
        fault("+ r0", 1);
        fault("+R0", 1);
        fault("++", 1);
        fault("+r", 2);
        fault("-c", 2);
        fault("+r ", 2);
        fault("+r-1", 2);
        fault("+r00", 3);
        fault("+r01", 3);
        fault("+r100", 4);
        fault("+r1.", 3);
        fault("-c12=", 4);
        fault("0", 1);
        fault("00", 1);
        fault("12", 2);
        fault("123", 2);
        fault("12.", 3);
        fault("12..", 3);
        fault(".0=1", 0);
        fault("1.2", 3);
        fault("1.02=1", 3);
        fault("1.234", 4);
        fault("1.2=", 4);
        fault("1.2= ", 4);
        fault("1.2=05", 5);
        fault("1.2=00", 5);
        fault("1.2=12345", 8);
        fault("1=2", 1);
        fault("=1", 0);
    }

    private static void faultsAfterAnOrder() {
        fault("+r0 ", 4);
        fault("+r0  +c0", 4);
        fault(" +r0", 0);
        fault("+r0+c0", 3);
        fault("0.0=1 0.0=2 x", 12);
        fault("0.0=1 0.0=2 ", 12);
        fault("0.0=1,0.0=2", 5);
        fault("+r0 +c0 0.0", 11);
        fault("+r0 +r0 +r0 +r0 +r0 +r0 +r0 +r0 +r0 +r0 +r0 +r0 +r0 +r0 +r0 ", 60);
        fault("+r0 +r0 +r0 +r0 +r0 +r0 +r0 +r0 +r0 +r0 +r0 +r0 +r0 +r0 +r ", 58);
    }

    private static void anySignIsAFault() {
        TrackedTable x = new TrackedTable();
        for (char c : new char[] {0, '/', ':', 'a', 133, 255, 256 + '0', 65535}) {
            x.clearText();
            x.type(c);
            Due.is("P11 sign " + (int) c, x.run(0), -100);
            write(x, "+r1");
            x.type(c);
            Due.is("P11 sign after a digit " + (int) c, x.run(0), -103);
        }
    }

    private static void run() {
        TrackedTable x = new TrackedTable();
        Due.is("P11 two rows", runText(x, 2, "+r0 +r1 +c0 1.0=9999"), 4);
        Due.is("P11 author", x.change(3, 1), 2);
        Due.is("P11 value", x.cell(0, 1, 0), 9999);
        Due.is("P11 text stays", x.count(10), 20);
        Due.is("P11 author -1", x.run(-1), -1);
        Due.is("P11 author 4", x.run(4), -1);
        Due.is("P11 author before fault", runText(x, 4, "x"), -1);
        Due.is("P11 own new row goes", runText(x, 2, "-r1"), 1);
        Due.is("P11 rows", x.size(0, 0), 1);
        Due.is("P11 zero", runText(x, 3, "0.0=5 0.0=0"), 2);
        Due.is("P11 set back", x.count(8), 0);
        Due.is("P11 fifteen", runText(x, 3, "+r0 +r0 +r0 +r0 +r0 +r0 +r0 +r0 +r0 +r0 +c0 -c0 +c0 -c0 +c0"), 15);
        Due.is("P11 two digits", runText(x, 0, "+r11 11.1=12"), 2);
        Due.is("P11 two digits told", x.cell(0, 11, 1), 12);
        Due.is("P11 removed by its place", runText(x, 0, "-r11 -c1"), 2);
        Due.is("P11 own row gone", x.size(0, 0), 11);
        Due.is("P11 column doomed", x.line(1, 1, 1) >= 0 ? 1 : 0, 1);
    }

    private static void runStopsAtAnError() {
        TrackedTable x = new TrackedTable();
        Due.is("P11 first fails", runText(x, 0, "+r1 +r0"), 0);
        Due.is("P11 an act all the same", x.count(9), 1);
        Due.is("P11 nothing done", x.size(0, 0), 0);
        Due.is("P11 third fails", runText(x, 0, "+r0 +c0 0.1=5 +r0"), 2);
        Due.is("P11 rest not done", x.size(0, 0), 1);
        Due.is("P11 same value fails", runText(x, 0, "0.0=5 0.0=5 +r0"), 1);
        Due.is("P11 large places fail", runText(x, 0, "+r99"), 0);
        Due.is("P11 large places fail, too", runText(x, 0, "99.99=1"), 0);
        Due.is("P11 and for columns", runText(x, 0, "-c10"), 0);
        Due.is("P11 no doomed row again", runText(x, 1, "-r0 -r0"), 1);
    }

    private static void runUntracked() {
        TrackedTable x = new TrackedTable();
        x.track(false);
        Due.is("P11 untracked", runText(x, 0, "+r0 +c0 +c1 0.0=7 0.1=8 -c0"), 6);
        Due.is("P11 untracked value", x.cell(2, 0, 0), 8);
        Due.is("P11 no number", x.count(0), 0);
    }

    private static void runIsOneAct() {
        TrackedTable x = new TrackedTable();
        runText(x, 0, "+r0 +c0 0.0=7");
        Due.is("P11 one state", x.count(9), 1);
        Due.is("P12 undo of the run", x.undo(), 0);
        Due.is("P12 no rows", x.size(0, 0), 0);
        Due.is("P12 no changes", x.count(0), 0);
    }

    private static void undo() {
        TrackedTable x = new TrackedTable();
        Due.is("P12 empty", x.undo(), -5);
        x.insert(0, 0, 0);
        x.insert(0, 1, 0);
        x.set(0, 0, 0, 5);
        x.set(0, 0, 0, 6);
        Due.is("P12 three left", x.undo(), 3);
        Due.is("P12 value", x.change(2, 5), 5);
        Due.is("P12 two left", x.undo(), 2);
        Due.is("P12 change unmade", x.change(2, 5), -1);
        Due.is("P12 made again", x.set(1, 0, 0, 8), 2);
        Due.is("P12 three again", x.count(9), 3);
        Due.is("P12 undo", x.undo(), 2);
        Due.is("P12 undo", x.undo(), 1);
        Due.is("P12 undo", x.undo(), 0);
        Due.is("P12 nothing left", x.undo(), -5);
        Due.is("P12 as new", x.size(0, 0), 0);
    }

    private static void historyOfFour() {
        TrackedTable x = new TrackedTable();
        for (int i = 0; i < 11; i++) {
            x.insert(0, 0, i);
            Due.is("P12 states", x.count(9), Math.min(i + 1, 4));
        }
        for (int i = 3; i >= 0; i--) {
            Due.is("P12 left", x.undo(), i);
            Due.is("P12 rows left", x.size(0, 0), 7 + i);
        }
        Due.is("P12 the oldest were dropped", x.undo(), -5);
        Due.is("P12 rows stay", x.size(0, 0), 7);
    }

    private static void textIsNoState() {
        TrackedTable x = new TrackedTable();
        write(x, "+r0");
        x.run(0);
        x.clearText();
        x.type('-');
        x.undo();
        Due.is("P12 text stays", x.count(10), 1);
        Due.is("P12 told by its fault", x.run(0), -101);
    }
}
