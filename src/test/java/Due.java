/** Compares answers with those that are due, and tells every one that is not. */
final class Due {
    interface Call {
        void make();
    }

    private final String test;
    private int compared = 0;
    private int wrong = 0;

    Due(String test) {
        this.test = test;
    }

    void is(String call, long want, long got) {
        compared++;
        if (got != want) {
            tell(call + " answered " + got + ", due is " + want);
        }
    }

    void is(String call, boolean want, boolean got) {
        is(call, want ? 1 : 0, got ? 1 : 0);
    }

    void is(String call, String want, String got) {
        compared++;
        if (!want.equals(got)) {
            tell(call + " answered " + got + ", due is " + want);
        }
    }

    /** The class must be the very one: the machine's own exceptions stand below those of the document. */
    void isThrown(String call, Class<? extends RuntimeException> want, Call body) {
        compared++;
        try {
            body.make();
        } catch (RuntimeException e) {
            if (e.getClass() != want) {
                tell(call + " threw " + e.getClass().getName() + ", due is " + want.getName());
            }
            return;
        }
        tell(call + " threw nothing, due is " + want.getName());
    }

    void offIsThrown(String call, Call body) {
        isThrown(call, IllegalStateException.class, body);
    }

    void indexIsThrown(String call, Call body) {
        isThrown(call, IndexOutOfBoundsException.class, body);
    }

    void argumentIsThrown(String call, Call body) {
        isThrown(call, IllegalArgumentException.class, body);
    }

    /** The buffer's word i must be a + i * b, for all i. */
    void isFilled(String when, WordMedium x, int a, int b) {
        for (int i = 0; i < 64; i++) {
            is("get(" + i + ") " + when, a + i * b, x.get(i));
        }
    }

    void stampsAre(String when, WordMedium x, int area, int page, int first, int second) {
        is("stamp(" + area + ", " + page + ", 0) " + when, first, x.stamp(area, page, 0));
        is("stamp(" + area + ", " + page + ", 1) " + when, second, x.stamp(area, page, 1));
    }

    void countsAre(String when, WordMedium x, int area, int torn, int lost) {
        is("count(" + area + ", 0) " + when, 256 - torn - lost, x.count(area, 0));
        is("count(" + area + ", 1) " + when, torn, x.count(area, 1));
        is("count(" + area + ", 2) " + when, lost, x.count(area, 2));
    }

    void logIs(String when, WordMedium x, int first, int forced, int end) {
        is("log(0) " + when, first, x.log(0));
        is("log(1) " + when, forced, x.log(1));
        is("log(2) " + when, end, x.log(2));
    }

    void end() {
        System.out.println(test + ": " + compared + " answers, " + wrong + " wrong");
        if (wrong != 0 || compared == 0) {
            System.exit(1);
        }
    }

    private void tell(String fault) {
        wrong++;
        System.out.println(test + ": " + fault);
    }
}
