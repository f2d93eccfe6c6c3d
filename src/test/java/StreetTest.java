/** Promises 1 to 5, 14 and 19: a new object, the street, how many bits a tone carries, insults, settings. */
public final class StreetTest {
    private static final Class<IndexOutOfBoundsException> INDEX = IndexOutOfBoundsException.class;
    private static final Class<IllegalArgumentException> ARGUMENT = IllegalArgumentException.class;
    private static final Class<IllegalStateException> STATE = IllegalStateException.class;
    private static final int MIN = Integer.MIN_VALUE;
    private static final int MAX = Integer.MAX_VALUE;
    // places that no street has
    private static final int[][] NOWHERE = {
        {-1, 0}, {2, 0}, {MIN, 0}, {MAX, 0}, {0, -1}, {0, 8}, {1, 8}, {1, MIN}, {0, MAX}, {2, 8}, {-1, -1}};

    private final Check check = new Check();

    public static void main(String[] args) {
        StreetTest test = new StreetTest();
        test.aNewObject();
        test.objectsShareNothing();
        test.buildChangesOneNumber();
        test.buildKnowsItsBounds();
        test.carryChangesTheBits();
        test.carryKnowsItsBounds();
        test.insultsAddUp();
        test.insultKnowsItsBounds();
        test.settingsChange();
        test.settingsKnowTheirBounds();
        test.streetKnowsItsBounds();
        test.check.end();
    }

    private void aNewObject() {
        AccentModems x = new AccentModems();
        for (int what = 0; what <= 12; what++) {
            check.due("new: count(" + what + ")", x.count(what), what == 1 ? 1 : 0);
        }
        int[] settings = {8, 8, 3};
        for (int i = 0; i < 3; i++) {
            check.due("new: setting(" + i + ")", x.setting(i), settings[i]);
        }
        for (int way = 0; way < 2; way++) {
            for (int tone = 0; tone < 8; tone++) {
                for (int what = 0; what <= 6; what++) {
                    check.due("new: street " + what, x.street(way, tone, what), what == 0 ? 64 : 0);
                }
                for (int what = 0; what <= 10; what++) {
                    check.due("new: accent " + what, x.accent(way, tone, what), what == 0 ? 64 : what == 4 ? -1 : 0);
                }
            }
            check.due("new: had", x.had(way), 0);
            check.dueDouble("new: rightShare", x.rightShare(way), 1.0);
            int w = way;
            check.dueThrow("new: waits", INDEX, () -> x.waits(w, 0));
        }
        check.dueThrow("new: undo", STATE, () -> x.undo());
        check.due("new: firstError", x.firstError(), 0);
        check.due("new: clearBuffer", x.clearBuffer(), 0);
    }

    private void objectsShareNothing() {
        AccentModems fresh = new AccentModems();
        long before = fresh.digest();
        Busy.busy();
        check.due("a fresh object beside a busy one", fresh.digest(), before);
        check.due("an object made behind a busy one", new AccentModems().digest(), before);
    }

    private void buildChangesOneNumber() {
        AccentModems x = new AccentModems();
        check.due("build gain", x.build(0, 0, 0, 80), 64);
        check.due("build first echo", x.build(0, 0, 1, 5), 0);
        check.due("build second echo", x.build(0, 0, 2, -6), 0);
        check.due("build noise", x.build(0, 0, 3, 7), 0);
        check.due("build at the end", x.build(1, 7, 0, 33), 64);
        check.due("build once more", x.build(0, 0, 0, 81), 80);
        check.due("build the same", x.build(0, 0, 1, 5), 5);
        check.due("each is undoable", x.count(12), 6);
        int[] here = {81, 5, -6, 7, 0, 0, 0};
        for (int way = 0; way < 2; way++) {
            for (int tone = 0; tone < 8; tone++) {
                for (int what = 0; what <= 6; what++) {
                    int due = what == 0 ? 64 : 0;
                    due = way == 0 && tone == 0 ? here[what] : due;
                    due = way == 1 && tone == 7 && what == 0 ? 33 : due;
                    check.due("street(" + way + ", " + tone + ", " + what + ")", x.street(way, tone, what), due);
                }
            }
        }
        check.due("accent", x.accent(0, 0, 0), 64);
        check.due("undo of the same", x.undo(), 5);
        check.due("street", x.street(0, 0, 0), 81);
        check.due("undo", x.undo(), 4);
        check.due("street behind undo", x.street(0, 0, 0), 80);
    }

    private void buildKnowsItsBounds() {
        int[][] bounds = {{16, 96}, {-32, 32}, {-32, 32}, {0, 60}};
        for (int what = 0; what < 4; what++) {
            int w = what;
            int least = bounds[what][0];
            int greatest = bounds[what][1];
            AccentModems x = new AccentModems();
            x.build(1, 3, what, least);
            check.due("build the least " + what, x.street(1, 3, what), least);
            check.due("build the greatest " + what, x.build(1, 3, what, greatest), least);
            check.due("the greatest " + what, x.street(1, 3, what), greatest);
            for (int value : new int[] {least - 1, greatest + 1, MIN, MAX}) {
                check.dueThrowUnchanged("build(1, 3, " + w + ", " + value + ")", x, ARGUMENT, () -> x.build(1, 3, w, value));
            }
        }
        AccentModems x = Busy.busy();
        for (int what : new int[] {-1, 4, 5, 6, MIN, MAX}) {
            check.dueThrowUnchanged("build what " + what, x, ARGUMENT, () -> x.build(0, 0, what, 20));
        }
        for (int[] p : NOWHERE) {
            check.dueThrowUnchanged("build nowhere", x, INDEX, () -> x.build(p[0], p[1], 0, 64));
            check.dueThrowUnchanged("build nothing nowhere", x, INDEX, () -> x.build(p[0], p[1], 4, 64));
            check.dueThrowUnchanged("build too much nowhere", x, INDEX, () -> x.build(p[0], p[1], 0, 97));
        }
    }

    private void carryChangesTheBits() {
        AccentModems x = new AccentModems();
        check.due("carry 4", x.carry(0, 2, 4), 0);
        check.due("carry 1", x.carry(0, 2, 1), 4);
        check.due("carry 3 back", x.carry(1, 7, 3), 0);
        check.due("bits", x.accent(0, 2, 3), 1);
        check.due("count(8)", x.count(8), 1);
        check.due("count(9)", x.count(9), 3);
        check.due("carry the same", x.carry(0, 2, 1), 1);
        check.due("undoable", x.count(12), 4);
        x.undo();
        x.undo();
        check.due("undo", x.count(9), 0);
        x.insult(0, 2, 300);
        x.send(0, 1);
        check.due("wrong signs", x.accent(0, 2, 5), 1);
        x.carry(0, 2, 2);
        check.due("wrong signs stay", x.accent(0, 2, 5), 1);
        x.carry(0, 2, 0);
        check.due("wrong signs stay without bits", x.accent(0, 2, 5), 1);
    }

    private void carryKnowsItsBounds() {
        AccentModems x = Busy.busy();
        for (int bits : new int[] {-1, 5, MIN, MAX}) {
            check.dueThrowUnchanged("carry " + bits, x, ARGUMENT, () -> x.carry(0, 0, bits));
        }
        for (int[] p : NOWHERE) {
            check.dueThrowUnchanged("carry nowhere", x, INDEX, () -> x.carry(p[0], p[1], 0));
            check.dueThrowUnchanged("carry too many nowhere", x, INDEX, () -> x.carry(p[0], p[1], 5));
        }
        for (int bits = 0; bits <= 4; bits++) {
            x.carry(1, 1, bits);
            check.due("carry " + bits, x.accent(1, 1, 3), bits);
        }
    }

    private void insultsAddUp() {
        AccentModems x = new AccentModems();
        check.due("insult", x.insult(0, 0, 300), 300);
        check.due("insult again", x.insult(0, 0, -100), 200);
        check.due("insult another", x.insult(1, 7, -1), -1);
        check.due("waits", x.street(0, 0, 4), 200);
        check.due("waits there", x.street(1, 7, 4), -1);
        check.due("count(11)", x.count(11), 2);
        check.due("insult by nothing", x.insult(0, 1, 0), 0);
        check.due("count(11) still", x.count(11), 2);
        check.due("undoable", x.count(12), 4);
        check.due("taken back", x.insult(1, 7, 1), 0);
        check.due("count(11) less", x.count(11), 1);
        x.undo();
        check.due("undo", x.street(1, 7, 4), -1);
    }

    private void insultKnowsItsBounds() {
        AccentModems x = new AccentModems();
        for (int sign = -1; sign <= 1; sign += 2) {
            int s = sign;
            int tone = s + 1;
            x.insult(0, tone, s * 300);
            x.insult(0, tone, s * 300);
            x.insult(0, tone, s * 300);
            check.dueThrowUnchanged("beyond 1000", x, STATE, () -> x.insult(0, tone, s * 101));
            check.due("to 1000", x.insult(0, tone, s * 100), s * 1000);
            check.dueThrowUnchanged("1001", x, STATE, () -> x.insult(0, tone, s));
            check.dueThrowUnchanged("300 beyond 1000", x, STATE, () -> x.insult(0, tone, s * 300));
            check.dueThrowUnchanged("301 is named first", x, ARGUMENT, () -> x.insult(0, tone, s * 301));
            check.due("nothing more", x.insult(0, tone, 0), s * 1000);
        }
        AccentModems y = Busy.busy();
        for (int by : new int[] {-301, 301, MIN, MAX}) {
            check.dueThrowUnchanged("insult by " + by, y, ARGUMENT, () -> y.insult(0, 0, by));
        }
        for (int[] p : NOWHERE) {
            check.dueThrowUnchanged("insult nowhere", y, INDEX, () -> y.insult(p[0], p[1], 1));
            check.dueThrowUnchanged("insult too much nowhere", y, INDEX, () -> y.insult(p[0], p[1], 301));
        }
    }

    private void settingsChange() {
        AccentModems x = new AccentModems();
        check.due("set 0", x.set(0, 1), 8);
        check.due("set 1", x.set(1, 40), 8);
        check.due("set 2", x.set(2, 50), 3);
        check.due("set 0 again", x.set(0, 64), 1);
        check.due("set the same", x.set(0, 64), 64);
        check.due("setting(0)", x.setting(0), 64);
        check.due("setting(1)", x.setting(1), 40);
        check.due("setting(2)", x.setting(2), 50);
        check.due("undoable", x.count(12), 5);
        x.undo();
        x.undo();
        check.due("undo", x.setting(0), 1);
    }

    private void settingsKnowTheirBounds() {
        int[][] bounds = {{1, 64}, {4, 40}, {1, 50}};
        AccentModems x = Busy.busy();
        for (int i = 0; i < 3; i++) {
            int setting = i;
            for (int value : bounds[i]) {
                x.set(setting, value);
                check.due("set to a bound", x.setting(setting), value);
            }
            for (int value : new int[] {bounds[i][0] - 1, bounds[i][1] + 1, MIN, MAX}) {
                check.dueThrowUnchanged("set(" + setting + ", " + value + ")", x, ARGUMENT, () -> x.set(setting, value));
            }
        }
        for (int none : new int[] {-1, 3, MIN, MAX}) {
            check.dueThrowUnchanged("set(" + none + ", 8)", x, INDEX, () -> x.set(none, 8));
            check.dueThrowUnchanged("set(" + none + ", 0)", x, INDEX, () -> x.set(none, 0));
            check.dueThrowUnchanged("setting(" + none + ")", x, INDEX, () -> x.setting(none));
        }
    }

    private void streetKnowsItsBounds() {
        AccentModems x = Busy.busy();
        for (int what : new int[] {-1, 7, 10, MIN, MAX}) {
            check.dueThrowUnchanged("street " + what, x, ARGUMENT, () -> x.street(1, 7, what));
        }
        for (int[] p : NOWHERE) {
            check.dueThrowUnchanged("street nowhere", x, INDEX, () -> x.street(p[0], p[1], 0));
            check.dueThrowUnchanged("nothing nowhere", x, INDEX, () -> x.street(p[0], p[1], 7));
        }
    }
}
