import java.util.function.Supplier;

/** Objects in the middle of their work, for tests that ask whether something changes. */
enum Busy {
    FRESH(AccentModems::new),
    BUSY(Busy::busy),
    FEW(Busy::fewSaved),
    FULL(Busy::full),
    TIRED(Busy::tired);

    final Supplier<AccentModems> recipe;

    Busy(Supplier<AccentModems> recipe) {
        this.recipe = recipe;
    }

    /** Both ways have learned, have sent with wrong bits, and have bits and insults waiting; the buffer is in use. */
    static AccentModems busy() {
        AccentModems x = new AccentModems();
        x.build(0, 0, 0, 80);
        x.build(0, 1, 1, 20);
        x.build(0, 2, 2, -15);
        x.build(0, 3, 3, 9);
        x.build(1, 4, 0, 40);
        x.build(1, 7, 3, 30);
        x.learn(0, 12);
        x.learn(1, 9);
        Check.say(x, "a:0123456789abcdef;b:fedcba98765432100123456789abcdef;a:55");
        x.insult(0, 3, 250);
        x.insult(1, 7, -120);
        x.send(0, 2);
        x.send(1, 1);
        x.insult(0, 5, -40);
        x.insult(1, 2, 7);
        Check.append(x, "a:7;b");
        return x;
    }

    /** As busy, but with four saved states, so that one more would be counted; the next wrong sign makes a tone shy. */
    static AccentModems fewSaved() {
        AccentModems x = busy();
        for (int i = 0; i < 6; i++) {
            x.undo();
        }
        x.set(2, 1);
        x.send(0, 1);
        x.insult(0, 6, 300);
        x.insult(1, 5, -300);
        return x;
    }

    /** 256 bits wait on each way, the buffer has 60 characters, and six states are saved. */
    static AccentModems full() {
        AccentModems x = new AccentModems();
        Check.say(x, "a:" + "9c".repeat(29));
        Check.say(x, "b:" + "3a".repeat(29));
        Check.say(x, "a:123456;b:fedcba");
        x.carry(0, 2, 3);
        x.carry(1, 5, 4);
        x.insult(0, 2, 300);
        x.insult(1, 1, -300);
        Check.append(x, "a:" + "5".repeat(58));
        return x;
    }

    /** All 5000 beats are used. */
    static AccentModems tired() {
        AccentModems x = new AccentModems();
        for (int i = 0; i < 25; i++) {
            x.send(0, 100);
            x.learn(1, 100);
        }
        return x;
    }
}
