/** Counts the answers that are not as they are due, and tells them. */
final class Due {
    private final String name;
    private String part = "";
    private int asked;
    private int wrong;

    Due(String name) {
        this.name = name;
    }

    /** What is asked from here on belongs to this part. */
    void part(String newPart) {
        part = " " + newPart;
    }

    void is(String what, long got, long want) {
        asked++;
        if (got != want) {
            tell(what + " answered " + got + ", due is " + want);
        }
    }

    void is(String what, boolean got, boolean want) {
        is(what, got ? 1 : 0, want ? 1 : 0);
    }

    void same(String what, String got, String want) {
        asked++;
        if (!got.equals(want)) {
            tell(what + " is\n" + got + "\ndue is\n" + want);
        }
    }

    /** The call throws just this exception, and changes nothing: neither now nor in what comes later. */
    void refused(Hall x, String what, Class<? extends RuntimeException> due, Ask call) {
        Recorder tape = Recorder.of(x);
        String before = Snapshot.of(tape.real());
        same(what, Ask.answer(tape.real(), call), due.getSimpleName());
        same("the state after " + what, Snapshot.of(tape.real()), before);
        for (Aftermath aftermath : Aftermath.values()) {
            Hall with = tape.again();
            Ask.answer(with, call);
            same("what follows " + what, aftermath.of(with), aftermath.of(tape.again()));
        }
    }

    void fault(String what) {
        asked++;
        tell(what);
    }

    private void tell(String what) {
        wrong++;
        System.out.println(name + part + ": " + what);
    }

    void end() {
        System.out.println(name + ": " + asked + " asked, " + wrong + " wrong");
        if (wrong != 0) {
            System.exit(1);
        }
    }
}
