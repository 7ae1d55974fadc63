/** The boundary cases of orders, history and errors: each test quotes the sentence that it is for. */
public final class OrdersBoundaryTest {
    private static final String SIGNS = "+-rc019.= x";
    private static final int LONGEST = 5;

    public static void main(String[] args) {
        textOf60();
        anyCharacter();
        clearedLength();
        emptyAtFirst();
        oneBlankBetweenOrders();
        digitsOfPlaces();
        digitsOfValues();
        noZeroInFront();
        firstCharacterThatIsNotAllowed();
        tooEarly();
        everyShortText();
        authorBeforeFault();
        faultyTextIsNoAct();
        textStays();
        upToTheFirstError();
        oneActThoughTheFirstFails();
        mostOrders();
        atMost4States();
        statesRoundAndRound();
        undoOfNothing();
        eachActRecords();
        refusedCallsLeaveTheHistory();
        tellingRecordsNothing();
        textIsNotInAState();
        trackingIsInAState();
        aStateIsWhole();
        Due.finish();
    }

    // ---- promises 9 and 10

    /** "A text of at most 60 characters"; "FULL if it has 60 characters". */
    private static void textOf60() {
        TrackedTable x = new TrackedTable();
        for (int length = 1; length <= 60; length++) {
            Due.is("length", x.type('0'), length);
        }
        Tables.refused(x, "61st character", () -> x.type('0'), -3);
        Tables.refused(x, "62nd character", () -> x.type(' '), -3);
        Due.is("length that it had", x.clearText(), 60);
        Due.is("room again", x.type('0'), 1);
    }

    /** "Character: any character." */
    private static void anyCharacter() {
        TrackedTable x = new TrackedTable();
        char[] odd = {0, 10, 127, 128, 255, 256, 0x130, 0xd800, 65535};
        for (int i = 0; i < odd.length; i++) {
            Due.is("character " + (int) odd[i], x.type(odd[i]), i + 1);
        }
        Due.is("the first is not allowed", x.run(0), -100);
        for (char character : odd) {
            Tables.write(x, "+r1");
            x.type(character);
            Due.is("not a digit, not the end: " + (int) character, x.run(0), -103);
        }
    }

    /** "Returns the length that it had." */
    private static void clearedLength() {
        TrackedTable x = new TrackedTable();
        Due.is("empty", x.clearText(), 0);
        x.type('+');
        Due.is("one", x.clearText(), 1);
        Due.is("empty again", x.clearText(), 0);
        Due.is("no act", x.count(9), 0);
        Tables.write(x, "+r0 +r0");
        Tables.write(x, "+r");
        Due.is("the old characters behind the end are gone", x.run(0), -102);
    }

    // ---- the fault of a text

    private static void fault(String text, int fault) {
        TrackedTable x = Tables.plain(1, 1);
        Tables.write(x, text);
        Tables.refused(x, "the fault of \"" + text + "\"", () -> x.run(0), -100 - fault);
    }

    private static void carriedOut(String text, int orders) {
        TrackedTable x = Tables.plain(1, 1);
        Due.is("orders of \"" + text + "\"", Tables.runText(x, 0, text), orders);
    }

    /** "Empty at first"; "at least one order". */
    private static void emptyAtFirst() {
        TrackedTable x = new TrackedTable();
        Due.is("no characters", x.count(10), 0);
        Tables.refused(x, "an empty text ends too early", () -> x.run(0), -100);
        fault("", 0);
        fault(" ", 0);
        carriedOut("+r0", 1);
    }

    /** "With one blank between each two." */
    private static void oneBlankBetweenOrders() {
        fault(" +r0", 0);
        fault("+r0 ", 4);
        fault("+r0  +r0", 4);
        fault("+r0+r0", 3);
        fault("0.0=1+r0", 5);
        fault("0.0=1 ", 6);
        fault("+ r0", 1);
        fault("+r 0", 2);
        fault("0 .0=1", 1);
        fault("0. 0=1", 2);
        fault("0.0 =1", 3);
        fault("0.0= 1", 4);
        fault("+r0\t+r0", 3);
        carriedOut("+r0 +r0 0.0=1", 3);
    }

    /** "Places have 1 or 2 digits." */
    private static void digitsOfPlaces() {
        for (String start : new String[] {"+r", "+c", "-r", "-c"}) {
            fault(start, 2);
            fault(start + "100", 4);
            fault(start + "999", 4);
            fault(start + "1000", 4);
            carriedOut(start + "99", 0);
        }
        carriedOut("+r0", 1);
        carriedOut("+r10", 0);
        fault(".0=1", 0);
        fault("100.0=1", 2);
        fault("0.=1", 2);
        fault("0.100=1", 4);
        carriedOut("99.0=1", 0);
        carriedOut("0.99=1", 0);
    }

    /** "Values 1 to 4" digits. */
    private static void digitsOfValues() {
        fault("0.0=", 4);
        fault("0.0=x", 4);
        carriedOut("0.0=1", 1);
        carriedOut("0.0=12", 1);
        carriedOut("0.0=123", 1);
        carriedOut("0.0=9999", 1);
        fault("0.0=10000", 8);
        fault("0.0=99999", 8);
        fault("0.0=-1", 4);
    }

    /** "Both without zeros in front (the single digit 0 is allowed)." */
    private static void noZeroInFront() {
        fault("+r00", 3);
        fault("-c01", 3);
        fault("00.0=1", 1);
        fault("01.0=1", 1);
        fault("0.00=1", 3);
        fault("0.05=1", 3);
        fault("0.0=00", 5);
        fault("0.0=01", 5);
        fault("0.0=0001", 5);
        carriedOut("0.0=1 0.0=0", 2);
        carriedOut("0.0=10", 1);
        carriedOut("0.0=1000", 1);
        carriedOut("+r1 +r0", 2);
    }

    /** "The index, from 0, of the first character that is not allowed at its place (a further digit, too)." */
    private static void firstCharacterThatIsNotAllowed() {
        fault("x", 0);
        fault("r0", 0);
        fault("=", 0);
        fault("+x", 1);
        fault("+R0", 1);
        fault("+0", 1);
        fault("++r0", 1);
        fault("+r+", 2);
        fault("+rx", 2);
        fault("+r0x", 3);
        fault("+r1x", 3);
        fault("+r12x", 4);
        fault("+r123x", 4);
        fault("+r0.", 3);
        fault("0x", 1);
        fault("0=1", 1);
        fault("10=1", 2);
        fault("0..", 2);
        fault("0.0.", 3);
        fault("0.0x", 3);
        fault("0.0==", 4);
        fault("0.0=1x", 5);
        fault("0.0=1.", 5);
        fault("0.0=1=", 5);
        fault("+r0 x", 4);
        fault("+r0 0.0=1 +c0 0,0=1", 15);
        String full = "+r0 +r0 +r0 +r0 +r0 +r0 +r0 +r0 +r0 +r0 +r0 +r0 +r0 +r0 ";
        fault(full + "+r0x", 59);
        fault(full + "0.00", 59);
    }

    /** "Or its length if it ends too early." */
    private static void tooEarly() {
        String whole = "+r0 10.11=1234 -c12";
        for (int length = 0; length < whole.length(); length++) {
            String text = whole.substring(0, length);
            boolean ended = length == 3 || length >= 11 && length <= 14 || length == 18;
            if (ended) {
                carriedOut(text, 1);
            } else {
                fault(text, length);
            }
        }
        String full = "+r0 +r0 +r0 +r0 +r0 +r0 +r0 +r0 +r0 +r0 +r0 +r0 +r0 +r0 ";
        fault(full + "0.0=", 60);
        fault(full + "+r0 ", 60);
        fault(full + "0.0", 59);
    }

    /** All texts of up to five of these signs, beside the pattern of Model. */
    private static void everyShortText() {
        for (int length = 0; length <= LONGEST; length++) {
            int texts = 1;
            for (int i = 0; i < length; i++) {
                texts *= SIGNS.length();
            }
            for (int number = 0; number < texts; number++) {
                beside(textOf(number, length));
            }
        }
    }

    private static String textOf(int number, int length) {
        StringBuilder text = new StringBuilder();
        int left = number;
        for (int i = 0; i < length; i++) {
            text.append(SIGNS.charAt(left % SIGNS.length()));
            left /= SIGNS.length();
        }
        return text.toString();
    }

    private static void beside(String text) {
        TrackedTable x = new TrackedTable();
        int fault = Model.faultOf(text);
        int answer = Tables.runText(x, 0, text);
        Due.is("\"" + text + "\"", answer < 0 ? answer : 0, fault < 0 ? 0 : -100 - fault);
    }

    // ---- promise 11

    /** "UNKNOWN; -100 minus the fault of the text if it has one." */
    private static void authorBeforeFault() {
        TrackedTable x = Tables.plain(1, 1);
        for (int wrong : new int[] {-1, 4, Integer.MIN_VALUE, Integer.MAX_VALUE}) {
            Tables.write(x, "x");
            Tables.refused(x, "author " + wrong + " and a fault", () -> x.run(wrong), -1);
            Tables.write(x, "+r0");
            Tables.refused(x, "author " + wrong, () -> x.run(wrong), -1);
        }
    }

    /** A text with a fault is carried out in no part. */
    private static void faultyTextIsNoAct() {
        TrackedTable x = Tables.plain(1, 1);
        Tables.write(x, "+r0 +c0 0.0=1 ");
        Tables.refused(x, "a fault at the end", () -> x.run(0), -114);
    }

    /** "Carries out the orders of the text, which stays." */
    private static void textStays() {
        TrackedTable x = new TrackedTable();
        Tables.write(x, "+r0");
        for (int i = 0; i < 12; i++) {
            Due.is("run " + i, x.run(0), 1);
            Due.is("length", x.count(10), 3);
        }
        Due.is("full", x.run(0), 0);
        Due.is("length then", x.clearText(), 3);
    }

    /** "Carried out one by one, up to the first one whose method would return an error." */
    private static void upToTheFirstError() {
        TrackedTable x = Tables.plain(1, 1);
        Tables.act(x, "UNKNOWN", () -> Tables.runText(x, 0, "+r0 -r2 +r0"), 1);
        Tables.act(x, "BAD_VALUE", () -> Tables.runText(x, 0, "+c0 +c3 +c0"), 1);
        Tables.act(x, "NOT_POSSIBLE", () -> Tables.runText(x, 0, "0.0=5 0.0=5 +r0"), 1);
        Tables.act(x, "NOT_POSSIBLE of a doomed line", () -> Tables.runText(x, 1, "-r0 -r0 +r0"), 1);
        Due.is("rows", x.size(0, 0), 2);
        Due.is("columns", x.size(0, 1), 2);
        TrackedTable y = Tables.plain(11, 1);
        Tables.act(y, "FULL", () -> Tables.runText(y, 0, "+r11 +r12 +c0"), 1);
        TrackedTable z = Tables.made(58);
        Tables.act(z, "FULL of changes", () -> Tables.runText(z, 3, "1.1=5 +r0 +r0 -r0"), 2);
        Due.is("made", z.count(0), 60);
        Tables.act(z, "one that needs no room", () -> Tables.runText(z, 3, "-r0 1.1=6 1.0=1 1.1=7"), 2);
    }

    /** "This is one act, also if the first order returns an error." */
    private static void oneActThoughTheFirstFails() {
        TrackedTable x = Tables.plain(1, 1);
        Tables.act(x, "the first fails", () -> Tables.runText(x, 0, "+r2 +r0"), 0);
        Tables.act(x, "the only one fails", () -> Tables.runText(x, 0, "0.0=0"), 0);
        Tables.act(x, "three are one act", () -> Tables.runText(x, 0, "+r0 +c0 0.0=1"), 3);
    }

    /** A text of 60 characters holds 15 orders of lines, or 10 settings. */
    private static void mostOrders() {
        TrackedTable x = new TrackedTable();
        String fifteen = "+r0 +r0 +r0 +r0 +r0 +r0 +r0 +r0 +r0 +r0 +r0 +c0 +c0 +c0 -c10";
        Tables.act(x, "fifteen but the last", () -> Tables.runText(x, 0, fifteen), 14);
        Due.is("length", x.count(10), 60);
        String ten = "0.0=1 0.0=2 0.0=3 0.0=4 0.0=5 0.0=6 0.0=7 0.0=8 0.0=9 0.0=10";
        Tables.act(x, "ten", () -> Tables.runText(x, 0, ten), 10);
        Due.is("length of ten", x.count(10), 60);
        Due.is("the last value", x.cell(0, 0, 0), 10);
        TrackedTable y = new TrackedTable();
        y.track(false);
        String lines = "+r0 -r0 +r0 -r0 +r0 -r0 +r0 -r0 +r0 -r0 +r0 -r0 +r0 -r0 +c0";
        Tables.act(y, "fifteen", () -> Tables.runText(y, 0, lines), 15);
    }

    // ---- promise 12

    /** "At most 4 states is kept; when one more is recorded, the oldest one is dropped." */
    private static void atMost4States() {
        for (int acts = 0; acts <= 12; acts++) {
            TrackedTable x = new TrackedTable();
            for (int i = 0; i < acts; i++) {
                x.insert(0, 0, i);
            }
            int kept = Math.min(acts, 4);
            Due.is("states", x.count(9), kept);
            for (int left = kept - 1; left >= 0; left--) {
                Due.is("states left", x.undo(), left);
                Due.is("rows", x.size(0, 0), acts - kept + left);
            }
            Due.is("nothing left", x.undo(), -5);
            Due.is("rows stay", x.size(0, 0), acts - kept);
        }
    }

    /** "Removes and restores the latest one": however often the oldest one was dropped before. */
    private static void statesRoundAndRound() {
        for (int acts = 1; acts <= 6; acts++) {
            for (int undos = 1; undos <= 5; undos++) {
                roundAndRound(acts, undos);
            }
        }
    }

    private static void roundAndRound(int acts, int undos) {
        TrackedTable x = Tables.plain(1, 1);
        x.track(false);
        int[] kept = new int[400];
        int end = 0;
        int states = 4;
        for (int round = 1; round <= 20; round++) {
            for (int act = 1; act <= acts; act++) {
                Due.is("an act", x.set(0, 0, 0, round * 10 + act), 1000);
                end++;
                kept[end] = round * 10 + act;
                states = Math.min(states + 1, 4);
            }
            for (int undo = 0; undo < undos && states > 0 && end > 0; undo++) {
                states--;
                end--;
                Due.is("states left", x.undo(), states);
                Due.is("the value before", x.cell(0, 0, 0), kept[end]);
            }
            Due.is("states", x.count(9), states);
        }
    }

    /** "NONE if the history is empty." */
    private static void undoOfNothing() {
        TrackedTable x = new TrackedTable();
        Due.is("new", x.undo(), -5);
        Due.is("again", x.undo(), -5);
        x.insert(0, 0, 0);
        Due.is("the only state", x.undo(), 0);
        Due.is("none any more", x.undo(), -5);
        Due.is("an undo is no act", x.count(9), 0);
        x.type('+');
        Due.is("nor is a text", x.undo(), -5);
        Due.is("nothing is changed", x.count(10), 1);
    }

    /** "Each call of a method that is described as an act, and that returns no error, records the state before it." */
    private static void eachActRecords() {
        TrackedTable x = Tables.plain(2, 2);
        Tables.act(x, "insert", () -> x.insert(0, 0, 1), 0);
        Tables.act(x, "set", () -> x.set(1, 1, 1, 5), 1);
        Tables.act(x, "set again", () -> x.set(1, 1, 1, 6), 1);
        Tables.act(x, "remove", () -> x.remove(2, 1, 0), 2);
        Tables.act(x, "accept", () -> x.accept(2), 1);
        Tables.act(x, "reject", () -> x.reject(1), 1);
        Tables.act(x, "settle", () -> x.settle(-1, true), 1);
        Tables.act(x, "track", () -> x.track(false), 0);
        Tables.act(x, "insert untracked", () -> x.insert(0, 0, 1), 1000);
        Tables.act(x, "set untracked", () -> x.set(0, 1, 0, 5), 1000);
        Tables.act(x, "remove untracked", () -> x.remove(0, 0, 1), 1000);
        Tables.act(x, "run", () -> Tables.runText(x, 0, "+c0"), 1);
    }

    /** "A call that reports an error or NONE changes nothing", nor does it drop the oldest of four states. */
    private static void refusedCallsLeaveTheHistory() {
        TrackedTable x = Tables.plain(1, 1);
        String[] states = new String[5];
        for (int i = 0; i < 4; i++) {
            states[i] = Tables.told(x);
            x.set(i % 2, 0, 0, 5 + i);
        }
        states[4] = Tables.told(x);
        Tables.write(x, "x");
        for (int i = 0; i < 6; i++) {
            Due.is("track", x.track(true), -4);
            Due.is("insert", x.insert(0, 0, 9), -2);
            Due.is("remove", x.remove(0, 0, 9), -1);
            Due.is("set", x.set(0, 0, 0, 8), -4);
            Due.is("accept", x.accept(9), -1);
            Due.is("reject", x.reject(9), -1);
            Due.is("settle", x.settle(3, true), -4);
            Due.is("run", x.run(0), -100);
            Due.is("run as no author", x.run(9), -1);
        }
        Due.same("the state now", Tables.told(x), states[4]);
        for (int i = 3; i >= 0; i--) {
            Due.is("left", x.undo(), i);
            Due.same("the state before act " + i, Tables.told(x), states[i]);
        }
        Due.is("no more", x.undo(), -5);
        Due.same("the oldest state stays", Tables.told(x), states[0]);
    }

    /** What tells only, and type and clearText, are no acts. */
    private static void tellingRecordsNothing() {
        TrackedTable x = Tables.made(3);
        Tables.makeRoomInHistory(x);
        String before = Tables.toldWhole(x);
        Due.same("what is told twice", Tables.toldWhole(x), before);
        x.type('+');
        x.clearText();
        Due.same("what is told after a text", Tables.toldWhole(x), before);
    }

    /** "A state is everything but the text and the history." */
    private static void textIsNotInAState() {
        TrackedTable x = new TrackedTable();
        Tables.runText(x, 0, "+r0");
        Tables.write(x, "+c0 0");
        Due.is("undone", x.undo(), 0);
        Due.is("the text stays", x.count(10), 5);
        Due.is("its signs, too", x.run(0), -105);
        x.clearText();
        Due.is("nothing to undo", x.undo(), -5);
        Due.is("the text stays empty", x.count(10), 0);
    }

    /** Everything else: whether changes are tracked. */
    private static void trackingIsInAState() {
        TrackedTable x = new TrackedTable();
        x.track(false);
        x.insert(0, 0, 0);
        x.track(true);
        x.undo();
        Due.is("untracked", x.insert(0, 0, 0), 1000);
        x.undo();
        x.undo();
        x.undo();
        Due.is("tracked", x.insert(0, 0, 0), 0);
    }

    /** Everything else: lines, base values, changes and their number, over several undos. */
    private static void aStateIsWhole() {
        TrackedTable x = Tables.made(3);
        x.insert(2, 0, 1);
        x.insert(3, 1, 1);
        x.set(0, 1, 1, 9);
        x.remove(1, 0, 0);
        String[] states = new String[4];
        states[0] = Tables.told(x);
        Due.is("accepts two lines and a setting", x.accept(5), 3);
        states[1] = Tables.told(x);
        Due.is("removes a row", x.accept(6), 1);
        states[2] = Tables.told(x);
        Due.is("rejects nothing any more", x.settle(-1, false), -4);
        Due.is("orders", Tables.runText(x, 0, "+r0 +c0 0.0=5 -r1"), 4);
        states[3] = Tables.told(x);
        x.track(false);
        for (int i = 3; i >= 0; i--) {
            Due.is("left", x.undo(), i);
            Due.same("state " + i, Tables.told(x), states[i]);
        }
    }
}
