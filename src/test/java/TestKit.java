import java.util.NoSuchElementException;

/** What the tests share: texts into halls, answers against what is due, exceptions by name. */
final class TestKit {
    interface Call {
        void run();
    }

    private final String name;
    private int asked;
    private int wrong;

    TestKit(String name) {
        this.name = name;
    }

    static String pad(String text) {
        StringBuilder padded = new StringBuilder(text);
        while (padded.length() % 20 != 0) {
            padded.append(' ');
        }
        return padded.toString();
    }

    static int bytesAt(String text, int at) {
        int number = 0;
        for (int i = 0; i < 4; i++) {
            number = number << 8 | text.charAt(at + i) & 255;
        }
        return number;
    }

    /** Feeds a text (the last feed filled up by blanks) behind the tape; the last feed's answer. */
    static int feed(BeardHall hall, String text) {
        String padded = pad(text);
        int answer = 0;
        for (int at = 0; at < padded.length(); at += 20) {
            answer = hall.feed(bytesAt(padded, at), bytesAt(padded, at + 4), bytesAt(padded, at + 8),
                bytesAt(padded, at + 12), bytesAt(padded, at + 16));
        }
        return answer;
    }

    static int archive(BeardHall hall, String text) {
        feed(hall, text);
        return hall.archive(text.length());
    }

    BeardHall hall(String text) {
        BeardHall hall = new BeardHall();
        same("archive of " + text, archive(hall, text), 0);
        return hall;
    }

    void same(String what, long got, long due) {
        asked++;
        if (got != due) {
            wrong++;
            System.out.println(name + ": " + what + " answered " + got + ", due is " + due);
        }
    }

    void same(String what, boolean got, boolean due) {
        same(what, got ? 1 : 0, due ? 1 : 0);
    }

    void noSuch(String what, Call call) {
        same(what + " throws (1 NoSuchElementException, 2 IllegalArgumentException, 0 nothing)", thrown(call), 1);
    }

    void illegal(String what, Call call) {
        same(what + " throws (1 NoSuchElementException, 2 IllegalArgumentException, 0 nothing)", thrown(call), 2);
    }

    private static int thrown(Call call) {
        try {
            call.run();
        } catch (NoSuchElementException e) {
            return 1;
        } catch (IllegalArgumentException e) {
            return 2;
        }
        return 0;
    }

    void end() {
        System.out.println(name + ": " + asked + " answers, " + wrong + " wrong");
        if (wrong != 0 || asked == 0) {
            System.exit(1);
        }
    }
}
