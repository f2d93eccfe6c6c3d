/** Promises 9 to 13: the buffer, its first error, messages as texts, and undo. */
public final class TextTest {
    private static final Class<IllegalArgumentException> ARGUMENT = IllegalArgumentException.class;
    private static final Class<IllegalStateException> STATE = IllegalStateException.class;
    private static final int MIN = Integer.MIN_VALUE;
    private static final int MAX = Integer.MAX_VALUE;
    // each with the index of its first error; the second number is 1 if it is a complete row
    private static final Object[][] TEXTS = {
        {"", 0, 0}, {"a", 1, 0}, {"b", 1, 0}, {"a:", 2, 0}, {"a:0", 3, 1}, {"b:f", 3, 1}, {"a:9a", 4, 1},
        {"a:0;", 4, 0}, {"a:0;b", 5, 0}, {"a:0;b:", 6, 0}, {"a:0;b:1", 7, 1}, {"b:aa;a:bb;b:cc", 14, 1},
        {"c", 0, 0}, {"A", 0, 0}, {"0", 0, 0}, {":", 0, 0}, {";", 0, 0}, {"`", 0, 0}, {"ab", 1, 0}, {"a;", 1, 0},
        {"aa:0", 1, 0}, {"a0", 1, 0}, {"a::", 2, 0}, {"a:;", 2, 0}, {"a:g", 2, 0}, {"a:A", 2, 0}, {"a:/", 2, 0},
        {"a:`", 2, 0}, {"a:0:", 3, 0}, {"a:0g", 3, 0}, {"a:0F", 3, 0}, {"a:0,b:1", 3, 0}, {"a:0;;", 4, 0},
        {"a:0;0", 4, 0}, {"a:0;c:1", 4, 0}, {"a:0;a1", 5, 0}, {"a:0;b:;", 6, 0}, {"a:a:", 3, 0}, {"b:b;a:a", 7, 1},
        {"x:0;y", 0, 0}, {"a:0~", 3, 0}, {"!", 0, 0}, {"a:\"", 2, 0}, {"a:0123456789abcdef", 18, 1}};

    private final Check check = new Check();

    public static void main(String[] args) {
        TextTest test = new TextTest();
        test.appendFillsTheBuffer();
        test.appendKnowsItsBounds();
        test.clearing();
        test.firstErrorsAndCompleteness();
        test.longTexts();
        test.sayPutsBits();
        test.sayAllOrNone();
        test.undoRestores();
        test.undoRestoresWhatIsCounted();
        test.undoKeepsTheBuffer();
        test.sixStatesAreSaved();
        test.check.end();
    }

    private void appendFillsTheBuffer() {
        AccentModems x = new AccentModems();
        for (int i = 1; i <= 60; i++) {
            check.due("append", x.append(i == 1 ? 33 : i == 2 ? 126 : '0'), i);
        }
        check.dueThrowUnchanged("append to a full buffer", x, STATE, () -> x.append('0'));
        check.dueThrowUnchanged("a wrong code is named first", x, ARGUMENT, () -> x.append(32));
        check.due("not undoable", x.count(12), 0);
        check.due("clearBuffer", x.clearBuffer(), 60);
        check.due("append behind clearing", x.append('a'), 1);
    }

    private void appendKnowsItsBounds() {
        AccentModems x = Busy.busy();
        for (int code : new int[] {32, 127, 0, -1, 10, 128, 65536 + 'a', MIN, MAX}) {
            check.dueThrowUnchanged("append " + code, x, ARGUMENT, () -> x.append(code));
        }
        x.clearBuffer();
        check.due("append 33", x.append(33), 1);
        check.due("append 126", x.append(126), 2);
        AccentModems y = new AccentModems();
        Check.append(y, "a:1");
        AccentModems z = new AccentModems();
        Check.append(z, "a:2");
        check.due("the characters are kept", y.digest() != z.digest() ? 1 : 0, 1);
    }

    private void clearing() {
        AccentModems x = new AccentModems();
        long before = x.digest();
        check.due("clear the empty buffer", x.clearBuffer(), 0);
        Check.append(x, "a:7");
        check.due("clear", x.clearBuffer(), 3);
        check.due("clear again", x.clearBuffer(), 0);
        check.due("as before", x.digest(), before);
        check.due("not undoable", x.count(12), 0);
    }

    private void firstErrorsAndCompleteness() {
        for (Object[] row : TEXTS) {
            AccentModems x = new AccentModems();
            String text = (String) row[0];
            Check.append(x, text);
            long before = x.digest();
            check.due("firstError of " + text, x.firstError(), (int) row[1]);
            check.due("nothing changed by firstError", x.digest(), before);
            if ((int) row[2] == 0) {
                check.dueThrowUnchanged("say " + text, x, ARGUMENT, () -> x.say());
            } else {
                long digits = text.replaceAll("[ab]:|;", "").length();
                check.due("say " + text, x.say(), 4 * digits);
            }
        }
    }

    private void longTexts() {
        AccentModems x = new AccentModems();
        Check.append(x, "a:" + "0123456789abcdef".repeat(3) + "0123456789");
        check.due("60 characters", x.firstError(), 60);
        check.due("say 60 characters", x.say(), 232);
        Check.append(x, "a:0;".repeat(15));
        check.due("15 messages and a semicolon", x.firstError(), 60);
        check.dueThrowUnchanged("not complete", x, ARGUMENT, () -> x.say());
        x.clearBuffer();
        Check.append(x, "b:0;".repeat(14) + "a:0");
        check.due("15 messages", x.say(), 60);
        check.due("there", x.count(2), 236);
        check.due("back", x.count(3), 56);
        Check.append(x, "a:" + "0".repeat(57) + ";");
        check.due("the last of 60 fits", x.firstError(), 60);
        x.clearBuffer();
        Check.append(x, "a:" + "0".repeat(57) + ":");
        check.due("the last of 60 is wrong", x.firstError(), 59);
        x.clearBuffer();
        check.due("what was cleared is not read", x.firstError(), 0);
        Check.append(x, "a:");
        check.due("nor behind a new beginning", x.firstError(), 2);
        check.dueThrowUnchanged("nor by say", x, ARGUMENT, () -> x.say());
        x.append('5');
        check.due("nor put on its way", x.say(), 4);
    }

    private void bits(String when, AccentModems x, int way, String due) {
        int size = x.count(2 + way);
        check.due(when + ": bits on the way " + way, size, due.length());
        for (int i = 0; i < due.length() && i < size; i++) {
            check.due(when + ": waits(" + way + ", " + i + ")", x.waits(way, i), due.charAt(i) - '0');
        }
    }

    private void sayPutsBits() {
        AccentModems x = new AccentModems();
        check.due("say", Check.say(x, "a:1c"), 8);
        bits("said", x, 0, "00011100");
        bits("said", x, 1, "");
        check.due("the buffer is clear", x.clearBuffer(), 0);
        check.due("say more", Check.say(x, "b:9a;a:f;b:0;a:6"), 20);
        bits("said more", x, 0, "0001110011110110");
        bits("said more", x, 1, "100110100000");
        check.due("undoable, as one call", x.count(12), 2);
        x.carry(0, 0, 3);
        x.send(0, 1);
        Check.say(x, "a:5");
        bits("behind those that wait", x, 0, "11100111101100101");
        x.undo();
        bits("undone", x, 0, "1110011110110");
        check.due("all digits", Check.say(x, "b:0123456789abcdef"), 64);
        bits("all digits", x, 1, "100110100000"
                + "0000000100100011010001010110011110001001101010111100110111101111");
    }

    private void sayAllOrNone() {
        AccentModems x = new AccentModems();
        Check.say(x, "a:" + "f".repeat(50));
        Check.append(x, "b:1;a:" + "e".repeat(15));
        check.dueThrowUnchanged("260 bits", x, STATE, () -> x.say());
        bits("all or none", x, 1, "");
        check.due("the buffer stays", x.clearBuffer(), 21);
        Check.append(x, "a:" + "e".repeat(14) + ";b:2;a:e");
        check.dueThrowUnchanged("260 bits by two messages", x, STATE, () -> x.say());
        x.append(';');
        check.dueThrowUnchanged("a text that is not complete is named first", x, ARGUMENT, () -> x.say());
        x.clearBuffer();
        check.due("256 bits", Check.say(x, "b:3;a:" + "e".repeat(14)), 60);
        check.due("256 bits", x.count(2), 256);
        Check.append(x, "a:0");
        check.dueThrowUnchanged("one digit more", x, STATE, () -> x.say());
        x.clearBuffer();
        check.due("the other way has room", Check.say(x, "b:" + "1".repeat(58)), 232);
        Check.append(x, "b:" + "1".repeat(6));
        check.dueThrowUnchanged("too many back", x, STATE, () -> x.say());
        x.clearBuffer();
        check.due("256 back", Check.say(x, "b:" + "1".repeat(5)), 20);
        check.due("the last of them", x.waits(1, 255), 1);
        x.carry(0, 0, 4);
        x.send(0, 3);
        check.due("there is room again", Check.say(x, "a:123"), 12);
        bits("behind a turn", x, 0, "1".repeat(188) + "1110".repeat(14) + "000100100011");
    }

    private void undoRestores() {
        for (int call = 0; call < 8; call++) {
            AccentModems x = Busy.busy();
            x.clearBuffer();
            if (call == 7) {
                Check.append(x, "a:1");
            }
            int saved = x.count(12);
            x.undo();
            saved--;
            x.clearBuffer();
            long before = x.digest();
            if (call == 7) {
                Check.append(x, "a:1");
            }
            change(x, call);
            check.due("saved by the call " + call, x.count(12), saved + 1);
            check.due("something changed", x.digest() != before ? 1 : 0, 1);
            check.due("undo the call " + call, x.undo(), saved);
            check.due("all is as before the call " + call, x.digest(), before);
        }
    }

    private static void change(AccentModems x, int call) {
        switch (call) {
            case 0: x.build(0, 3, 3, 44); break;
            case 1: x.carry(1, 2, 1); break;
            case 2: x.insult(0, 1, 99); break;
            case 3: x.set(2, 40); break;
            case 4: x.learn(0, 17); break;
            case 5: x.send(1, 5); break;
            case 6: x.forget(1); break;
            default: x.say(); break;
        }
    }

    private void undoRestoresWhatIsCounted() {
        for (int way = 0; way < 2; way++) {
            AccentModems x = new AccentModems();
            x.set(2, 1);
            x.carry(way, 3, 2);
            x.insult(way, 3, 300);
            Check.say(x, way == 0 ? "a:1" : "b:1");
            long before = x.digest();
            check.due("send", x.send(way, 1), 1);
            int[] sent = {1, 1, 1};
            int[] what = {6, 7, 8};
            for (int i = 0; i < 3; i++) {
                check.due("accent " + what[i], x.accent(way, 3, what[i]), sent[i]);
            }
            check.due("wrong bits", x.count(6 + way), 1);
            x.undo();
            for (int i = 0; i < 3; i++) {
                check.due("undone: accent " + what[i], x.accent(way, 3, what[i]), 0);
            }
            check.due("undone: wrong bits", x.count(6 + way), 0);
            check.due("undone: bits that came", x.count(4 + way), 0);
            check.due("undone: had", x.had(way), 0);
            check.due("undone: shy tones", x.count(10), 0);
            check.due("undone: all", x.digest(), before);
        }
    }

    private void undoKeepsTheBuffer() {
        AccentModems x = new AccentModems();
        Check.append(x, "a:1");
        x.set(0, 9);
        Check.append(x, ";b");
        x.undo();
        check.due("the buffer stays", x.firstError(), 5);
        check.due("settings do not", x.setting(0), 8);
        x.clearBuffer();
        Check.say(x, "a:1");
        x.undo();
        check.due("what was said does not come back", x.clearBuffer(), 0);
        bits("unsaid", x, 0, "");
        check.dueThrowUnchanged("undo has no undo", x, STATE, () -> x.undo());
    }

    private void sixStatesAreSaved() {
        AccentModems x = new AccentModems();
        check.dueThrowUnchanged("nothing to undo", x, STATE, () -> x.undo());
        for (int i = 1; i <= 9; i++) {
            x.set(0, 10 + i);
            check.due("saved", x.count(12), Math.min(i, 6));
        }
        for (int i = 5; i >= 0; i--) {
            check.due("undo", x.undo(), i);
            check.due("setting", x.setting(0), 13 + i);
        }
        check.dueThrowUnchanged("the oldest ones were dropped", x, STATE, () -> x.undo());
        check.due("setting", x.setting(0), 13);
        x.set(0, 13);
        check.due("also if nothing changes", x.count(12), 1);
        x.build(0, 0, 0, 70);
        x.undo();
        x.build(0, 0, 0, 71);
        check.due("undo and go on", x.undo(), 1);
        check.due("gain", x.street(0, 0, 0), 64);
    }
}
