import java.util.ArrayList;
import java.util.List;

/** All that an object tells of itself, by some 350 calls; it is used up by that. */
final class Snapshot {
    private final HiredClaque x;
    private final List<String> lines = new ArrayList<>();

    private Snapshot(HiredClaque x) {
        this.x = x;
    }

    static List<String> of(HiredClaque x) {
        Snapshot s = new Snapshot(x);
        s.house("now");
        s.tried();
        s.things();
        s.add("z", x.seed(0));
        s.add("again", x.again());
        s.house("kept");
        s.add("z kept", x.seed(0));
        s.tape();
        return s.lines;
    }

    private void add(String what, long answer) {
        lines.add(what + " = " + answer);
    }

    private void house(String when) {
        for (int what = 0; what < 7; what++) {
            add(when + " many " + what, x.many(what));
        }
        for (int law = 0; law < 4; law++) {
            add(when + " law " + law, x.lawOf(law));
        }
        for (int p = 0; p < 8; p++) {
            for (int what = 0; what < 5; what++) {
                add(when + " of " + p + ", " + what, x.of(p, what));
            }
        }
        for (int what = 0; what < 6; what++) {
            add(when + " state " + what, x.state(what));
        }
    }

    private void tried() {
        for (int p = 0; p < 8; p++) {
            for (int what = 0; what < 3; what++) {
                add("does " + p + ", " + what, x.does(p, what));
            }
        }
        for (int room = 0; room < 8; room++) {
            add("room " + room, x.room(room, 0));
            add("clap in room " + room, x.room(room, 1));
        }
        add("clapping 1", x.clapping(1));
        add("clapping 2", x.clapping(2));
        add("stir", x.stir(9));
    }

    private void things() {
        for (int i = 0; i < 10; i++) {
            for (int what = 0; what < 3; what++) {
                add("row " + i + ", " + what, x.row(i, what));
            }
        }
        for (int i = 0; i < 12; i++) {
            add("trace " + i, x.trace(i));
        }
        for (int s = 0; s < 4; s++) {
            for (int sort = 0; sort < 4; sort++) {
                for (int i = 0; i < 6; i++) {
                    add("item " + s + ", " + sort + ", " + i, x.item(s, sort, i));
                }
            }
            for (int as = 0; as < 6; as++) {
                add("taken " + s + ", " + as, x.taken(s, as));
            }
            for (int as = 10; as < 14; as++) {
                add("taken " + s + ", " + as, x.taken(s, as));
            }
        }
    }

    /** What THE TAPE has must be the begin of a LAW that lacks its semicolon. */
    private void tape() {
        add("tape", x.feed(';', 1));
        add("opera", x.opera());
        for (int law = 0; law < 4; law++) {
            add("law by the tape " + law, x.lawOf(law));
        }
    }
}
