import java.util.List;
import java.util.function.Supplier;
import java.util.function.ToLongFunction;

/** The boundary cases of the document's "Input text" and "Undo", sentence by sentence, and of promises 9 to 13. */
public final class EdgesOfTextTest {
    private static final Class<IllegalArgumentException> ARGUMENT = IllegalArgumentException.class;
    private static final Class<IllegalStateException> STATE = IllegalStateException.class;
    // each undoable call, in a form that changes something, and where there is one, in a form that changes nothing
    private static final List<ToLongFunction<AccentModems>> CHANGES = List.of(
            x -> x.build(1, 7, 3, 59), x -> x.carry(1, 0, 4 - x.accent(1, 0, 3)), x -> x.insult(1, 6, -33),
            x -> x.set(1, 39), x -> x.learn(0, 3), x -> x.learn(1, 100), x -> x.send(0, 3), x -> x.send(1, 100),
            x -> x.forget(0), x -> x.forget(1), x -> Check.say(x, "a:0;b:f"));
    private static final List<ToLongFunction<AccentModems>> NO_CHANGES = List.of(
            x -> x.build(1, 7, 3, x.street(1, 7, 3)), x -> x.carry(1, 0, x.accent(1, 0, 3)), x -> x.insult(1, 6, 0),
            x -> x.set(1, x.setting(1)));
    private static final List<ToLongFunction<AccentModems>> NOT_UNDOABLE = List.of(
            x -> x.append('a'), x -> x.clearBuffer(), x -> x.firstError(), x -> x.street(0, 0, 0),
            x -> x.accent(0, 0, 0), x -> x.waits(0, 0), x -> x.had(0), x -> x.count(0), x -> x.setting(0),
            x -> x.sure(0, 0),
            x -> x.ifSent(0, 100, 0), x -> x.ifSent(1, 1, 1), x -> x.ifSent(0, 7, 2), x -> x.ifLearned(0, 100),
            x -> x.beatsFor(0), x -> x.beatsFor(1), x -> x.bestLesson(0), x -> x.hurts(0, 0), x -> x.hurts(1, 7),
            x -> (long) x.rightShare(0), x -> x.digest());

    private final Check check = new Check();

    public static void main(String[] args) {
        EdgesOfTextTest test = new EdgesOfTextTest();
        test.theEmptyBuffer();
        test.everyCharacterAtEveryPlace();
        test.aRowOfAnyLengthMayFollow();
        test.theFirstOfSeveralErrors();
        test.oneOrMoreMessages();
        test.oneOrMoreDigits();
        test.sixtyCharacters();
        test.clearingGivesTheLength();
        test.sayClearsTheBuffer();
        test.sayUpToTheLimit();
        test.sayPutsTheHighestBitFirst();
        test.undoableCallsSave();
        test.undoableCallsThatChangeNothingSave();
        test.otherCallsDoNotSave();
        test.undoBringsAllBack();
        test.undoLeavesTheBuffer();
        test.undoIsNotUndone();
        test.atMostSixStates();
        test.theOldestIsDroppedFirst();
        test.undoAgainAndAgain();
        test.fiveHundredAndTwelveCalls();
        test.check.end();
    }

    private static AccentModems withText(String text) {
        AccentModems x = new AccentModems();
        Check.append(x, text);
        return x;
    }

    // "the length of the buffer if there is none"
    private void theEmptyBuffer() {
        AccentModems x = new AccentModems();
        check.due("firstError", x.firstError(), 0);
        check.dueThrow("say", ARGUMENT, () -> x.say());
        check.due("clearBuffer", x.clearBuffer(), 0);
        check.due("append", x.append('x'), 1);
        check.due("firstError", x.firstError(), 0);
        check.due("clearBuffer", x.clearBuffer(), 1);
        check.due("firstError", x.firstError(), 0);
        check.due("digest", x.digest(), new AccentModems().digest());
    }

    // what may stand behind each beginning; "a character is a syntax error if no row of messages .. begins with .."
    private void everyCharacterAtEveryPlace() {
        String digits = "0123456789abcdef";
        String[][] places = {{"", "ab"}, {"a", ":"}, {"b", ":"}, {"a:", digits}, {"b:", digits}, {"a:0", digits + ";"},
            {"b:f", digits + ";"}, {"a:09af", digits + ";"}, {"a:0;", "ab"}, {"b:1;a", ":"}, {"b:1;a:", digits},
            {"a:1;b:c", digits + ";"}, {"a:1;b:2;", "ab"}, {"a:a;b:b;a:b", digits + ";"}};
        for (String[] place : places) {
            for (char c = 33; c <= 126; c++) {
                AccentModems x = withText(place[0] + c);
                int length = place[0].length();
                boolean isFine = place[1].indexOf(c) >= 0;
                check.due("firstError of " + place[0] + c, x.firstError(), isFine ? length + 1 : length);
                boolean isComplete = isFine && place[1].startsWith(digits) && c != ';';
                if (isComplete) {
                    check.due("say " + place[0] + c, x.say() > 0 ? 1 : 0, 1);
                } else {
                    check.dueThrow("say " + place[0] + c, ARGUMENT, () -> x.say());
                }
            }
        }
    }

    // ".. if no row of messages, of any length, begins with the characters before it": though the buffer has no room
    private void aRowOfAnyLengthMayFollow() {
        String[] texts = {"a:0;".repeat(15), "a:0;".repeat(14) + "a:00", "a:" + "0".repeat(57) + ";",
            "a:" + "0".repeat(56) + ";b", "a:" + "0".repeat(55) + ";b:"};
        for (String text : texts) {
            AccentModems x = withText(text);
            check.due("60 characters", text.length(), 60);
            check.due("firstError of " + text, x.firstError(), 60);
        }
    }

    private void theFirstOfSeveralErrors() {
        String[] texts = {"x:0;y:1", "ax0;;;", "a:x;b:y", "a:0x;b:1y", "a:0;x:y", "a:0;bx:", "a:0;b:xx"};
        int[] places = {0, 1, 2, 3, 4, 5, 6};
        for (int i = 0; i < texts.length; i++) {
            check.due("firstError of " + texts[i], withText(texts[i]).firstError(), places[i]);
        }
        // characters behind the first error do not mend it
        check.due("firstError", withText("a::0").firstError(), 2);
        check.due("firstError", withText("za:0").firstError(), 0);
        check.due("firstError", withText("a:0;;b:0").firstError(), 4);
        check.dueThrow("say", ARGUMENT, () -> withText("za:0").say());
        check.dueThrow("say", ARGUMENT, () -> withText("a:0;;b:0").say());
        AccentModems x = new AccentModems();
        for (int i = 1; i <= 60; i++) {
            x.append('~');
            check.due("firstError of " + i + " wrong characters", x.firstError(), 0);
        }
    }

    // "one or more messages separated by ;"
    private void oneOrMoreMessages() {
        for (int many = 1; many <= 15; many++) {
            String text = "a:0;".repeat(many - 1) + "b:0";
            check.due("say " + text, withText(text).say(), 4 * many);
            check.due("firstError", withText(text).firstError(), 4 * many - 1);
            check.dueThrow("a separator behind it", ARGUMENT, () -> withText(text + ";").say());
            check.dueThrow("a separator before it", ARGUMENT, () -> withText(";" + text).say());
        }
        check.dueThrow("no message", ARGUMENT, () -> withText("").say());
        check.dueThrow("a separator alone", ARGUMENT, () -> withText(";").say());
    }

    // "and one or more digits"
    private void oneOrMoreDigits() {
        check.dueThrow("no digit", ARGUMENT, () -> withText("a:").say());
        check.dueThrow("no digit in the first one", ARGUMENT, () -> withText("a:;b:0").say());
        check.dueThrow("no digit in the last one", ARGUMENT, () -> withText("a:0;b:").say());
        for (int many = 1; many <= 58; many++) {
            AccentModems x = withText("b:" + "5".repeat(many));
            check.due("say", x.say(), 4 * many);
            check.due("bits that wait", x.count(3), 4 * many);
            check.due("bits of the other way", x.count(2), 0);
        }
    }

    // "The buffer has at most 60 characters."
    private void sixtyCharacters() {
        String text = "a:" + "0123456789abcdef".repeat(3) + "fedcba98;b"; // 2 + 48 + 10
        AccentModems x = new AccentModems();
        for (int i = 0; i < 60; i++) {
            check.due("append", x.append(text.charAt(i)), i + 1);
        }
        for (int code : new int[] {33, ':', 'a', 126}) {
            check.dueThrow("append one more", STATE, () -> x.append(code));
        }
        check.due("firstError", x.firstError(), 60);
        check.dueThrow("say", ARGUMENT, () -> x.say());
        check.due("clearBuffer", x.clearBuffer(), 60);
        AccentModems y = withText("a:" + "1".repeat(58));
        check.dueThrow("append one more", STATE, () -> y.append('1'));
        check.due("say 58 digits", y.say(), 232);
        check.due("append again", y.append('a'), 1);
        AccentModems z = withText("x".repeat(59));
        check.due("the 60th", z.append('x'), 60);
        check.dueThrow("the 61st", STATE, () -> z.append('x'));
    }

    // "Returns the length that it had."
    private void clearingGivesTheLength() {
        for (int length = 0; length <= 60; length++) {
            AccentModems x = withText("~".repeat(length));
            check.due("clearBuffer", x.clearBuffer(), length);
            check.due("clearBuffer again", x.clearBuffer(), 0);
            check.due("append", x.append('b'), 1);
        }
    }

    // "all or none, and clears the buffer"
    private void sayClearsTheBuffer() {
        AccentModems x = withText("a:0;b:1");
        check.due("say", x.say(), 8);
        check.due("clearBuffer", x.clearBuffer(), 0);
        check.dueThrow("say nothing", ARGUMENT, () -> x.say());
        Check.append(x, "a:0;");
        check.dueThrow("say what is not complete", ARGUMENT, () -> x.say());
        check.due("it stays", x.append('b'), 5);
        Check.append(x, ":3");
        check.due("say", x.say(), 8);
        check.due("bits that wait", 1000 * x.count(2) + x.count(3), 8008);
    }

    // "more than 256 bits would wait on a way"
    private void sayUpToTheLimit() {
        for (int way = 0; way < 2; way++) {
            String to = way == 0 ? "a:" : "b:";
            String other = way == 0 ? "b:" : "a:";
            AccentModems x = withText(to + "0".repeat(58));
            x.say();
            check.due("252 bits", Check.say(x, to + "00000"), 20);
            Check.append(x, to + "00");
            check.dueThrow("260 bits", STATE, () -> x.say());
            check.due("252 bits still", x.count(2 + way), 252);
            x.clearBuffer();
            Check.append(x, other + "7;" + to + "0;" + to + "0");
            check.dueThrow("260 bits by two messages", STATE, () -> x.say());
            check.due("none", x.count(3 - way), 0);
            x.clearBuffer();
            check.due("256 bits", Check.say(x, other + "7;" + to + "f;" + other + "7"), 12);
            check.due("256 bits", x.count(2 + way), 256);
            check.due("the last bits", x.waits(way, 251) * 10 + x.waits(way, 255), 1);
            check.due("bits of the other way", x.count(3 - way), 8);
            check.due("the other way has room", Check.say(x, other + "3"), 4);
        }
    }

    // "each of which stands for 4 bits, the highest one first"
    private void sayPutsTheHighestBitFirst() {
        for (int digit = 0; digit < 16; digit++) {
            AccentModems x = withText("b:" + Integer.toHexString(digit));
            x.say();
            for (int place = 0; place < 4; place++) {
                check.due("the digit " + digit + ", bit " + place, x.waits(1, place), digit >> (3 - place) & 1);
            }
        }
    }

    private static Supplier<AccentModems> emptied(Busy busy) {
        return () -> {
            AccentModems x = busy.recipe.get();
            x.clearBuffer();
            return x;
        };
    }

    // "Each method that is marked undoable and does not throw an exception saves the state from before it"
    private void undoableCallsSave() {
        for (int i = 0; i < CHANGES.size(); i++) {
            for (Busy busy : new Busy[] {Busy.FRESH, Busy.FEW, Busy.BUSY}) {
                AccentModems x = emptied(busy).get();
                int saved = x.count(12);
                CHANGES.get(i).applyAsLong(x);
                check.due("saved by the change " + i + " when " + busy, x.count(12), Math.min(6, saved + 1));
                check.due("undo", x.undo(), Math.min(5, saved));
            }
        }
    }

    // "(also if it changes nothing)"
    private void undoableCallsThatChangeNothingSave() {
        for (int i = 0; i < NO_CHANGES.size(); i++) {
            for (Busy busy : new Busy[] {Busy.FRESH, Busy.FEW, Busy.BUSY}) {
                AccentModems x = busy.recipe.get();
                int saved = x.count(12);
                NO_CHANGES.get(i).applyAsLong(x);
                check.due("saved by the call " + i + " when " + busy, x.count(12), Math.min(6, saved + 1));
                check.due("undo", x.undo(), Math.min(5, saved));
            }
        }
        AccentModems x = new AccentModems();
        x.forget(0);
        x.forget(0);
        check.due("saved by forgetting nothing", x.count(12), 2);
    }

    private void otherCallsDoNotSave() {
        for (int i = 0; i < NOT_UNDOABLE.size(); i++) {
            for (Busy busy : new Busy[] {Busy.FEW, Busy.BUSY}) {
                AccentModems x = busy.recipe.get();
                int saved = x.count(12);
                NOT_UNDOABLE.get(i).applyAsLong(x);
                check.due("saved behind the call " + i, x.count(12), saved);
                if (i < 2) {
                    continue;
                }
                ToLongFunction<AccentModems> call = NOT_UNDOABLE.get(i);
                check.dueSame("all behind the call " + i, Told.by(busy.recipe), Told.by(() -> {
                    AccentModems y = busy.recipe.get();
                    call.applyAsLong(y);
                    return y;
                }));
            }
        }
    }

    // "saves the state from before it: all but the buffer and the saved states"
    private void undoBringsAllBack() {
        for (int i = 0; i < CHANGES.size(); i++) {
            ToLongFunction<AccentModems> change = CHANGES.get(i);
            for (Busy busy : new Busy[] {Busy.FRESH, Busy.FEW}) {
                List<Long> before = Told.by(emptied(busy));
                check.dueSame("all behind the change " + i + " and undo", before, Told.by(() -> {
                    AccentModems x = emptied(busy).get();
                    change.applyAsLong(x);
                    x.undo();
                    return x;
                }));
                List<Long> changed = Told.by(() -> {
                    AccentModems x = emptied(busy).get();
                    change.applyAsLong(x);
                    return x;
                });
                check.due("something changes by " + i, changed.equals(before) ? 0 : 1, 1);
            }
        }
    }

    private void undoLeavesTheBuffer() {
        AccentModems x = withText("a:0");
        x.set(0, 1);
        x.append(';');
        x.undo();
        check.due("length", x.append('b'), 5);
        x.clearBuffer();
        x.set(0, 1);
        Check.append(x, "~".repeat(60));
        x.undo();
        check.dueThrow("a full buffer stays full", STATE, () -> x.append('a'));
        x.set(0, 1);
        x.clearBuffer();
        x.undo();
        check.due("a cleared buffer stays cleared", x.clearBuffer(), 0);
        Check.say(x, "b:12");
        x.undo();
        check.due("what was said is not in the buffer", x.firstError(), 0);
        check.due("and does not wait", x.count(3), 0);
    }

    private void undoIsNotUndone() {
        AccentModems x = new AccentModems();
        x.set(0, 10);
        x.set(0, 11);
        check.due("undo", x.undo(), 1);
        check.due("setting", x.setting(0), 10);
        check.due("undo", x.undo(), 0);
        check.due("setting", x.setting(0), 8);
        check.dueThrow("undo", STATE, () -> x.undo());
        check.due("setting", x.setting(0), 8);
    }

    // "At most 6 states are saved"
    private void atMostSixStates() {
        for (int many = 0; many <= 9; many++) {
            AccentModems x = new AccentModems();
            for (int i = 1; i <= many; i++) {
                x.insult(0, 0, 1);
                check.due("saved", x.count(12), Math.min(6, i));
            }
            for (int left = Math.min(6, many) - 1; left >= 0; left--) {
                check.due("undo", x.undo(), left);
                check.due("saved", x.count(12), left);
            }
            check.due("what is left of " + many, x.street(0, 0, 4), Math.max(0, many - 6));
            check.dueThrow("undo", STATE, () -> x.undo());
        }
    }

    // "the oldest one is dropped first"
    private void theOldestIsDroppedFirst() {
        AccentModems x = new AccentModems();
        for (int i = 1; i <= 20; i++) {
            x.set(0, i);
        }
        for (int i = 19; i >= 14; i--) {
            x.undo();
            check.due("the latest one first", x.setting(0), i);
        }
        check.dueThrow("the others were dropped", STATE, () -> x.undo());
        for (int i = 30; i <= 40; i++) {
            x.set(0, i);
        }
        x.undo();
        x.undo();
        check.due("two undone", x.setting(0), 38);
        for (int i = 50; i <= 52; i++) {
            x.set(0, i);
        }
        int[] due = {51, 50, 38, 37, 36, 35};
        for (int i = 0; i < 6; i++) {
            check.due("undo", x.undo(), 5 - i);
            check.due("setting", x.setting(0), due[i]);
        }
        check.dueThrow("no other", STATE, () -> x.undo());
    }

    private void undoAgainAndAgain() {
        AccentModems x = Busy.BUSY.recipe.get();
        x.clearBuffer();
        long before = x.digest();
        for (int i = 0; i < 20; i++) {
            x.learn(i % 2, 5);
            x.send(i % 2, 5);
            x.undo();
            x.undo();
            check.due("saved states", x.count(12), 4);
            if (i == 0) {
                before = x.digest();
            }
            check.due("digest", x.digest(), before);
        }
    }

    // "An object is used for at most 512 calls": the last of them is as good as the first
    private void fiveHundredAndTwelveCalls() {
        AccentModems x = new AccentModems();
        for (int i = 0; i < 505; i++) {
            x.set(0, 1 + i % 64);
        }
        for (int i = 0; i < 6; i++) {
            check.due("undo", x.undo(), 5 - i);
        }
        check.due("the 512th call", x.setting(0), 1 + 498 % 64);
    }
}
