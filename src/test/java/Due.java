/** Counts the answers that are not as they are due, and tells them. */
final class Due {
    interface Call {
        long run();
    }

    private final String name;
    private int asked;
    private int wrong;

    Due(String name) {
        this.name = name;
    }

    void is(String what, long got, long want) {
        asked++;
        if (got != want) {
            wrong++;
            System.out.println(name + ": " + what + " answered " + got + ", due is " + want);
        }
    }

    void is(String what, boolean got, boolean want) {
        is(what, got ? 1 : 0, want ? 1 : 0);
    }

    void same(String what, String got, String want) {
        asked++;
        if (!got.equals(want)) {
            wrong++;
            System.out.println(name + ": " + what + " is\n" + got + "\ndue is\n" + want);
        }
    }

    /** The call throws just this exception, and changes nothing that can be asked. */
    void refused(PisteLine x, String what, Class<? extends RuntimeException> due, Call call) {
        asked++;
        String before = Snapshot.of(new RealHall(x));
        String got = "nothing";
        try {
            call.run();
        } catch (RuntimeException e) {
            got = e.getClass().getSimpleName();
        }
        if (!got.equals(due.getSimpleName())) {
            wrong++;
            System.out.println(name + ": " + what + " threw " + got + ", due is " + due.getSimpleName());
        }
        same("the state after " + what, Snapshot.of(new RealHall(x)), before);
    }

    void end() {
        System.out.println(name + ": " + asked + " asked, " + wrong + " wrong");
        if (wrong != 0) {
            System.exit(1);
        }
    }
}
