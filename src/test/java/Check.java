/** Counts answers that are not as due, and tells texts and rows to an object. */
final class Check {
    interface Call {
        long answer();
    }

    private final String name;
    private int asked;
    private int wrong;

    Check(String name) {
        this.name = name;
    }

    void is(String what, long want, long got) {
        asked++;
        if (want != got) {
            wrong++;
            System.out.println(name + ": " + what + " answered " + got + ", due is " + want);
        }
    }

    void is(String what, boolean want, boolean got) {
        is(what, want ? 1 : 0, got ? 1 : 0);
    }

    void fails(String what, Class<? extends RuntimeException> want, Call call) {
        asked++;
        String got;
        try {
            got = Long.toString(call.answer());
        } catch (RuntimeException thrown) {
            if (thrown.getClass() == want) {
                return;
            }
            got = thrown.getClass().getSimpleName();
        }
        wrong++;
        System.out.println(name + ": " + what + " answered " + got + ", due is " + want.getSimpleName());
    }

    /** Ends the test: exit code 1 if an answer was wrong. */
    void finish() {
        System.out.println(name + ": " + asked + " answers, " + wrong + " not as due");
        if (wrong > 0) {
            System.exit(1);
        }
    }

    /** Puts bytes (characters 0 to 255) behind the tape. */
    static void tell(PencilUp x, String bytes) {
        int had = 0;
        for (int at = 0; at < bytes.length(); at += 20) {
            int[] n = new int[5];
            for (int k = 0; k < 20; k++) {
                int b = at + k < bytes.length() ? bytes.charAt(at + k) : 0;
                n[k / 4] = n[k / 4] << 8 | b;
            }
            had = x.feed(n[0], n[1], n[2], n[3], n[4]);
        }
        int spare = (20 - bytes.length() % 20) % 20;
        if (!bytes.isEmpty()) {
            x.end(had - spare);
        }
    }

    static void rows(PencilUp x, int... numbers) {
        StringBuilder bytes = new StringBuilder();
        for (int number : numbers) {
            bytes.append((char) number);
        }
        tell(x, bytes.toString());
    }

    static PencilUp evening(String text) {
        PencilUp x = new PencilUp();
        tell(x, text);
        x.evening();
        return x;
    }

    static PencilUp evening(String text, String law) {
        PencilUp x = evening(text);
        tell(x, law);
        x.law();
        return x;
    }
}
