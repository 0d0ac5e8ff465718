import java.util.NoSuchElementException;

/**
 * Two halls that had the same calls. One then gets a call that should change nothing (but STATUS, if it is refused),
 * and all that can be asked of both is held side by side, also behind each ACT UNDONE, what is forgotten and restored.
 */
final class Twins {
    interface Setup {
        void make(BeardHall hall);
    }

    interface Asked {
        long of(BeardHall hall);
    }

    static final int TEXTS = 0;
    static final int ACTS = 1;
    static final int SEEN = 2;
    static final int NOTHING = 3;

    private final TestKit kit;
    private final String text;
    private final Setup setup;

    Twins(TestKit kit, String text, Setup setup) {
        this.kit = kit;
        this.text = text;
        this.setup = setup;
    }

    BeardHall one() {
        BeardHall hall = new BeardHall();
        kit.same("archive of " + text, TestKit.archive(hall, text), 0);
        setup.make(hall);
        return hall;
    }

    /** The call answers what is due, one STATUS is 1 more, and nothing else is changed. */
    void refused(String what, int status, long due, Asked call) {
        BeardHall touched = one();
        kit.same(what, call.of(touched), due);
        sideBySide(what, touched, status);
    }

    /** The call answers what is due and changes nothing. */
    void harmless(String what, long due, Asked call) {
        refused(what, NOTHING, due, call);
    }

    void noSuch(String what, Asked call) {
        thrown(what, 1, call);
    }

    void illegal(String what, Asked call) {
        thrown(what, 2, call);
    }

    private void thrown(String what, int due, Asked call) {
        BeardHall touched = one();
        int got = 0;
        try {
            call.of(touched);
        } catch (NoSuchElementException e) {
            got = 1;
        } catch (IllegalArgumentException e) {
            got = 2;
        }
        kit.same(what + " throws (1 NoSuchElementException, 2 IllegalArgumentException, 0 nothing)", got, due);
        sideBySide(what, touched, NOTHING);
    }

    private void sideBySide(String what, BeardHall touched, int status) {
        BeardHall other = one();
        for (int i = 0; i < 3; i++) {
            kit.same(what + ": STATUS " + i, touched.count(12 + i), other.count(12 + i) + (i == status ? 1 : 0));
        }
        kit.same(what + ": bytes of the tape", touched.count(11), status == TEXTS ? 0 : other.count(11));
        alike(what, touched, other);
        for (int left = other.count(9); left >= 0; left--) {
            kit.same(what + ": undo()", touched.undo(), other.undo());
            alike(what + ": UNDONE to " + left, touched, other);
        }
        for (int left = other.count(10); left >= 0; left--) {
            for (int monk = 0; monk < other.count(0); monk++) {
                kit.same(what + ": ate", touched.ate(monk, 0), other.ate(monk, 0));
            }
            kit.same(what + ": forget()", touched.forget(), other.forget());
        }
        kit.same(what + ": restore()", touched.restore(), other.restore());
        alike(what + ": restored", touched, other);
    }

    private void alike(String what, BeardHall touched, BeardHall other) {
        String got = state(touched);
        String due = state(other);
        kit.same(what + ": " + got + " should be " + due, got.equals(due), true);
    }

    /** All but STATUS and the tape. */
    static String state(BeardHall hall) {
        StringBuilder state = new StringBuilder();
        for (int what = 0; what <= 10; what++) {
            state.append(hall.count(what)).append(' ');
        }
        for (int monk = 0; monk < hall.count(0); monk++) {
            state.append("; monk");
            for (int what = 0; what <= 5; what++) {
                state.append(' ').append(hall.monk(monk, what));
            }
        }
        for (int entry = 0; entry < hall.count(1); entry++) {
            state.append("; entry");
            for (int what = 0; what <= 9; what++) {
                state.append(' ').append(hall.entry(entry, what));
            }
            state.append(hall.may(0, entry) ? " may" : " may not");
        }
        return state.toString();
    }
}
