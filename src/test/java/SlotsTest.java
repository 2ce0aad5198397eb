/** Promises 29 and 30: the save slots. */
final class SlotsTest {
    private static final Due due = new Due();

    public static void main(String[] args) {
        promise29Save();
        promise30Restore();
        promise30RestoreRefused();
        due.end("SlotsTest");
    }

    private static void promise29Save() {
        StoodMinutes x = Seen.withPeople(2);
        due.throwsIndex("29: save(-1)", () -> x.save(-1));
        due.throwsIndex("29: save(2)", () -> x.save(2));
        due.throwsState("29: a refused save stores nothing", () -> x.restore(0));
        due.is("29: save(0)", 0, () -> x.save(0));
        x.minutes(4);
        String before = Seen.of(x);
        due.is("29: save(1)", 4, () -> x.save(1));
        due.compare("29: save changes nothing", before, Seen.of(x));
        due.is("29: save is no action", 2, x::undo);
        due.is("29: the states of both slots are kept", 4, () -> x.restore(1));
        due.is("29: the states of both slots are kept", 0, () -> x.restore(0));
        x.minutes(9);
        due.is("29: save again", 9, () -> x.save(0));
        x.minutes(1);
        due.is("29: the later state takes the place of the one before", 9, () -> x.restore(0));
    }

    private static void promise30Restore() {
        StoodMinutes x = new StoodMinutes();
        x.open(7);
        for (int p = 0; p < 6; p++) {
            x.come(p % 2, p % 3);
        }
        x.set(0, 12);
        x.set(3, 1);
        x.minutes(8);
        x.jump(5);
        x.exchange(3, 5);
        x.come(0, 1);
        String saved = Seen.of(x);
        x.save(1);
        x.undo();
        x.minutes(4);
        x.come(1, 2);
        x.go(5);
        x.merge(0, 1);
        x.open(2);
        x.set(1, 50);
        x.minutes(60);
        Seen.write(x, "W1");
        due.is("30: restore(1)", 8, () -> x.restore(1));
        due.compare("30: all is as when it was saved", saved, Seen.of(x));
        due.throwsState("30: restore forgets the remembered states, and is no action", x::undo);
        due.is("30: restore keeps the text", 2, x::clearText);
        due.throwsState("30: the pause of a jump is restored", () -> x.jump(5));
        x.minutes(3);
        due.is("30: an action behind it is remembered", 0, x::undo);
        x.minutes(3);
        due.is("30: the slot keeps the state", 8, () -> x.restore(1));
        due.compare("30: and it is the same", saved, Seen.of(x));
    }

    private static void promise30RestoreRefused() {
        StoodMinutes x = Seen.withPeople(3);
        due.throwsIndex("30: restore(-1)", () -> x.restore(-1));
        due.throwsIndex("30: restore(2)", () -> x.restore(2));
        due.throwsState("30: restore of an empty slot", () -> x.restore(0));
        x.save(0);
        due.throwsState("30: restore of the other slot", () -> x.restore(1));
        due.is("30: a refused restore forgets nothing", 2, x::undo);
        Seen.write(x, "W103");
        x.load();
        due.throwsState("30: nothing has been saved since the load", () -> x.restore(0));
        x.save(1);
        due.is("30: saved since the load", 0, () -> x.restore(1));
    }
}
