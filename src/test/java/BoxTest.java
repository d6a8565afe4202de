/**
 * Each phrase of up to four events, at the times that matter to the lock-out, is judged by the class as by
 * the model: from the first place of the row on, and as its last events.
 */
public final class BoxTest {
    private static final int MOST_EVENTS = 8;
    private static final int MOST_VARIED = 4;
    private static final int KINDS = 7;

    private final Due due;
    private final int discipline;
    private final int[] gaps;
    private final int[] kinds = new int[MOST_VARIED];
    private final int[] times = new int[MOST_VARIED];

    private BoxTest(Due due, int discipline, int lockOut) {
        this.due = due;
        this.discipline = discipline;
        gaps = new int[] {0, lockOut, lockOut + 1};
    }

    public static void main(String[] args) {
        Due due = new Due("BoxTest");
        new BoxTest(due, PisteLine.EPEE, 40).vary(0, 0);
        new BoxTest(due, PisteLine.FOIL, 300).vary(0, 0);
        due.end();
    }

    private void vary(int varied, int time) {
        compare(varied, 0);
        compare(varied, MOST_EVENTS - varied);
        if (varied == MOST_VARIED) {
            return;
        }
        for (int gap : gaps) {
            for (int kind = 0; kind < KINDS; kind++) {
                kinds[varied] = kind;
                times[varied] = time + gap;
                vary(varied + 1, time + gap);
            }
        }
    }

    private void compare(int varied, int ahead) {
        int got = touches(new RealHall(new PisteLine(discipline)), varied, ahead);
        int want = touches(new ModelHall(discipline), varied, ahead);
        due.is(got == want ? "" : told(varied, ahead), got, want);
    }

    private int touches(Hall hall, int varied, int ahead) {
        for (int fencer = 0; fencer < 2; fencer++) {
            hall.fencer();
            hall.weapon(fencer);
            hall.test(fencer, 600, 10);
        }
        hall.drawPools(1);
        hall.begin(0, 0, 1);
        hall.allez();
        for (int i = 0; i < ahead; i++) {
            hall.right(PisteLine.NONE, 0);
        }
        for (int i = 0; i < varied; i++) {
            hear(hall, i);
        }
        return hall.halt();
    }

    /** The kinds 0 to 3 are contacts, those from 4 on say who has the right. */
    private void hear(Hall hall, int event) {
        int kind = kinds[event];
        if (kind < 4) {
            hall.contact(kind & 1, kind < 2, times[event]);
        } else {
            hall.right(kind - 5, times[event]);
        }
    }

    private String told(int varied, int ahead) {
        StringBuilder text = new StringBuilder("discipline " + discipline + ", behind " + ahead + " events:");
        for (int i = 0; i < varied; i++) {
            text.append(' ').append(kinds[i]).append('@').append(times[i]);
        }
        return text.toString();
    }
}
