import java.util.ArrayList;
import java.util.List;

/**
 * Ways in which a run can go on. What a hall keeps without telling it (the events of a phrase that is
 * on, whether an appeal is open, who had the right) shows only in what later calls answer.
 */
enum Aftermath {
    EVENTS {
        @Override
        void add(List<Ask> calls) {
            calls.add(h -> h.contact(0, true, 0));
            calls.add(h -> h.right(1, 0));
            for (int i = 0; i < 8; i++) {
                calls.add(h -> h.contact(1, true, 310));
            }
            calls.add(Hall::halt);
        }
    },
    SECOND_SIDE {
        @Override
        void add(List<Ask> calls) {
            calls.add(h -> h.contact(1, true, 0));
            calls.add(h -> h.contact(0, true, 40));
            calls.add(Hall::halt);
            calls.add(Hall::allez);
            calls.add(Hall::halt);
        }
    },
    LATEST_TIME {
        @Override
        void add(List<Ask> calls) {
            for (int time = 0; time < 12; time++) {
                int now = time;
                calls.add(h -> h.right(0, now));
            }
            calls.add(h -> h.contact(1, false, Integer.MAX_VALUE));
            calls.add(Hall::halt);
        }
    },
    APPEALS {
        @Override
        void add(List<Ask> calls) {
            calls.add(Hall::halt);
            for (int side = 0; side < 2; side++) {
                for (int right = -1; right < 2; right++) {
                    int by = side;
                    int told = right;
                    calls.add(h -> h.appeal(by, told));
                    calls.add(h -> h.appeal(by, told));
                }
            }
        }
    },
    FENCED_ON {
        @Override
        void add(List<Ask> calls) {
            calls.add(Hall::halt);
            for (int phrase = 0; phrase < 12; phrase++) {
                int side = phrase % 2;
                calls.add(Hall::allez);
                calls.add(h -> h.contact(side, true, 0));
                calls.add(Hall::halt);
            }
        }
    },
    DRAWN {
        @Override
        void add(List<Ask> calls) {
            calls.add(Hall::halt);
            calls.add(Hall::fencer);
            calls.add(h -> h.weapon(0));
            calls.add(Hall::drawTableau);
            calls.add(h -> h.drawPools(1));
            calls.add(h -> h.begin(0, 0, 1));
            calls.add(Hall::allez);
        }
    },
    OTHER_WEAPONS {
        @Override
        void add(List<Ask> calls) {
            for (int w = 0; w < 24; w++) {
                int weapon = w;
                calls.add(h -> h.change(0, weapon));
                calls.add(h -> h.change(1, weapon));
            }
            calls.add(Hall::allez);
        }
    },
    ALL_FALSE {
        @Override
        void add(List<Ask> calls) {
            calls.add(Hall::halt);
            for (int w = 0; w < 24; w++) {
                int weapon = w;
                calls.add(h -> h.test(weapon, 0, 0) ? 1 : 0);
            }
        }
    };

    abstract void add(List<Ask> calls);

    /** All answers of the run from here on, and all that can be asked behind it. */
    String of(Hall hall) {
        List<Ask> calls = new ArrayList<>();
        add(calls);
        StringBuilder text = new StringBuilder(name());
        for (Ask call : calls) {
            text.append(' ').append(Ask.answer(hall, call));
        }
        return text.append('\n').append(Snapshot.of(hall)).toString();
    }
}
