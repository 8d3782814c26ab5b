import java.util.Random;

/** Promises 1 to 46: runs of nearly 512 calls, drawn by fixed seeds, on the program and on PlainClaque. */
public final class RandomRunsTest {
    private static final String[] WORDS = {"guest", "wife", "hand", "cook", "chief", "rival", "in", "pride", "ear",
        "claps", "pay", "cue", "wall", "wrong", ";", " ", "0", "3", "7", "9", "10", "99", "100", "0001", "x", "-"};

    private static final int CALLS_MOST = 512;
    // a text of 250 bytes, seven a call
    private static final int LONGEST_STEP = 40;

    private final HiredClaque x = new HiredClaque();
    private final PlainClaque plain = new PlainClaque();
    private final Random random;
    private final int run;
    private String call = "";
    private long got;
    private long want;

    private RandomRunsTest(int run) {
        this.run = run;
        random = new Random(run);
    }

    public static void main(String[] args) {
        int runs = args.length > 0 ? Integer.parseInt(args[0]) : 150;
        for (int run = 0; run < runs; run++) {
            new RandomRunsTest(run).go();
        }
        Due.end();
    }

    private void go() {
        int calls = 0;
        while (calls < CALLS_MOST - LONGEST_STEP) {
            calls += step();
            Due.eq("run " + run + ", call " + calls + ": " + call, got, want);
        }
    }

    /** Mostly within, at times one beyond, and seldom far away. */
    private int in(int least, int most) {
        int sort = random.nextInt(40);
        if (sort == 0) {
            return least - 1;
        }
        if (sort == 1) {
            return most + 1;
        }
        if (sort == 2) {
            int[] far = {Integer.MIN_VALUE, Integer.MAX_VALUE, -1, 1 << 16};
            return far[random.nextInt(far.length)];
        }
        return least + random.nextInt(most - least + 1);
    }

    private int one() {
        return in(0, Math.max(0, plain.now.people.size() - 1));
    }

    private int any() {
        return random.nextBoolean() ? random.nextInt() : random.nextInt(300) - 150;
    }

    private void is(String name, long got, long want, long... arguments) {
        call = name + java.util.Arrays.toString(arguments);
        this.got = got;
        this.want = want;
    }

    private int step() {
        int which = random.nextInt(60);
        if (which < 15) {
            change(which);
        } else if (which < 32) {
            look(which);
        } else if (which < 45) {
            tryOut(which);
        } else if (which < 59) {
            things(which);
        } else {
            return tell();
        }
        return 1;
    }

    private void change(int which) {
        int p = one();
        int a = in(0, 5);
        int b = in(0, 9);
        int c = in(0, 7);
        int d = in(0, 99);
        int e = in(0, 1);
        switch (which) {
            case 0: case 1: is("person", x.person(a, d, b, c), plain.person(a, d, b, c), a, d, b, c); break;
            case 2: case 3: is("mind", x.mind(p, a, b), plain.mind(p, a, b), p, a, b); break;
            case 4: is("pride", x.pride(p, d), plain.pride(p, d), p, d); break;
            case 5: case 6: is("move", x.move(p, c), plain.move(p, c), p, c); break;
            case 7: case 8: case 9: is("clap", x.clap(p, e), plain.clap(p, e), p, e); break;
            case 10: {
                int law = in(0, 3);
                int v = law == 3 ? d : b;
                is("set", x.set(law, v), plain.set(law, v), law, v);
                break;
            }
            case 11: {
                int v = any();
                is("seed", x.seed(v), plain.seed(v), v);
                break;
            }
            case 12: is("minute", x.minute(), plain.minute()); break;
            case 13: {
                int n = random.nextInt(8) == 0 ? in(1, 60) : in(1, 3);
                is("minutes", x.minutes(n), plain.minutes(n), n);
                break;
            }
            default: {
                if (random.nextInt(3) > 0) {
                    is("keep", x.keep(), plain.keep());
                } else {
                    is("again", x.again(), plain.again());
                }
            }
        }
    }

    private void look(int which) {
        int p = one();
        switch (which) {
            case 15: {
                int law = in(0, 3);
                is("lawOf", x.lawOf(law), plain.lawOf(law), law);
                break;
            }
            case 16: case 17: case 18: {
                int what = in(0, 4);
                is("of", x.of(p, what), plain.of(p, what), p, what);
                break;
            }
            case 19: case 20: case 21: case 22: {
                int what = in(0, 2);
                is("does", x.does(p, what), plain.does(p, what), p, what);
                break;
            }
            case 23: {
                int room = in(0, 7);
                int what = in(0, 1);
                is("room", x.room(room, what), plain.room(room, what), room, what);
                break;
            }
            case 24: case 25: case 26: {
                int what = in(0, 5);
                is("state", x.state(what), plain.state(what), what);
                break;
            }
            case 27: case 28: {
                int what = in(0, 6);
                is("many", x.many(what), plain.many(what), what);
                break;
            }
            case 29: {
                int n = in(0, 8);
                int k = in(0, Math.max(0, Math.min(8, n)));
                int part = in(0, 1);
                is("odds", x.odds(n, k, part), plain.odds(n, k, part), n, k, part);
                break;
            }
            case 30: {
                int n = in(0, 99);
                int part = in(0, 1);
                is("hope", x.hope(n, part), plain.hope(n, part), n, part);
                break;
            }
            default: {
                int i = in(0, 11);
                is("trace", x.trace(i), plain.trace(i), i);
            }
        }
    }

    private void tryOut(int which) {
        int p = one();
        int n = random.nextInt(4) == 0 ? in(1, 20) : in(1, 5);
        switch (which) {
            case 32: {
                int v = in(0, 60);
                is("clapping", x.clapping(v), plain.clapping(v), v);
                break;
            }
            case 33: is("joins", x.joins(p), plain.joins(p), p); break;
            case 34: is("all", x.all(), plain.all()); break;
            case 35: is("hush", x.hush(), plain.hush()); break;
            case 36: is("round", x.round(), plain.round()); break;
            case 37: is("roomFor", x.roomFor(p, n), plain.roomFor(p, n), p, n); break;
            case 38: is("kindFor", x.kindFor(p, n), plain.kindFor(p, n), p, n); break;
            case 39: is("earFor", x.earFor(p, n), plain.earFor(p, n), p, n); break;
            case 40: is("begunFor", x.begunFor(p, n), plain.begunFor(p, n), p, n); break;
            case 41: is("hiredFor", x.hiredFor(n), plain.hiredFor(n), n); break;
            case 42: {
                int v = in(1, 30);
                is("stir", x.stir(v), plain.stir(v), v);
                break;
            }
            case 43: {
                int v = in(1, 10);
                is("prove", x.prove(p, v), plain.prove(p, v), p, v);
                break;
            }
            default: is("judge", x.judge(p), plain.judge(p), p);
        }
    }

    private void things(int which) {
        int p = one();
        int s = in(0, 3);
        int i = in(0, 6);
        int sort = in(0, 3);
        switch (which) {
            case 45: {
                int what = in(0, 2);
                is("row", x.row(i, what), plain.row(i, what), i, what);
                break;
            }
            case 46: {
                int what = in(0, 2);
                int v = random.nextInt(3);
                is("alterRow", x.alterRow(i, what, v), plain.alterRow(i, what, v), i, what, v);
                break;
            }
            case 47: {
                int n = in(0, 4);
                is("minds", x.minds(s, i, p, n), plain.minds(s, i, p, n), s, i, p, n);
                break;
            }
            case 48: {
                int as = random.nextBoolean() ? 0 : in(-1, 3);
                int n = random.nextInt(5) == 0 ? in(0, 40) : in(0, 6);
                is("sheet", x.sheet(s, as, n), plain.sheet(s, as, n), s, as, n);
                break;
            }
            case 49: case 50: {
                int v = random.nextBoolean() ? any() : random.nextInt(10) - 1;
                is("put", x.put(s, i, v), plain.put(s, i, v), s, i, v);
                break;
            }
            case 51: is("item", x.item(s, sort, i), plain.item(s, sort, i), s, sort, i); break;
            case 52: {
                int what = in(0, 1);
                is("fits", x.fits(s, p, what), plain.fits(s, p, what), s, p, what);
                break;
            }
            case 53: case 54: {
                int what = random.nextBoolean() ? 0 : in(0, 2);
                int n = what == 0 ? p : s;
                is("shelf", x.shelf(sort, what, n), plain.shelf(sort, what, n), sort, what, n);
                break;
            }
            case 55: {
                int as = random.nextBoolean() ? in(0, 5) : in(10, 13);
                is("taken", x.taken(s, as), plain.taken(s, as), s, as);
                break;
            }
            default: {
                int act = in(0, 3);
                int v = any();
                is("act", x.act(s, act, v), plain.act(s, act, v), s, act, v);
            }
        }
    }

    /** Tells a text, most often a right one, and reads it: how many calls that takes. */
    private int tell() {
        StringBuilder text = new StringBuilder();
        int statements = random.nextInt(9);
        for (int i = 0; i < statements; i++) {
            if (random.nextInt(4) == 0) {
                text.append(pick(10, 14)).append(' ').append(random.nextInt(12)).append(';');
            } else {
                text.append(pick(0, 6)).append(" in ").append(random.nextInt(8));
                text.append(random.nextInt(3) == 0 ? " pride " + random.nextInt(100) : "");
                text.append(random.nextInt(3) > 0 ? " ear " + random.nextInt(10) : "");
                text.append(random.nextInt(2) == 0 ? "claps ;" : "; ");
            }
        }
        for (int spoils = random.nextInt(4) - 1; spoils > 0; spoils--) {
            int at = random.nextInt(text.length() + 1);
            text.replace(at, Math.min(text.length(), at + random.nextInt(5)), pick(0, WORDS.length));
        }
        int calls = 0;
        for (int at = 0; at < text.length(); at += 7) {
            long eight = random.nextLong() << 56;
            int n = Math.min(7, text.length() - at);
            for (int i = 0; i < n; i++) {
                eight |= (long) text.charAt(at + i) << 8 * i;
            }
            Due.eq("run " + run + ": feed", x.feed(eight, n), plain.feed(eight, n));
            calls++;
        }
        is("opera of '" + text + "'", x.opera(), plain.opera());
        return calls + 1;
    }

    private String pick(int from, int to) {
        return WORDS[from + random.nextInt(to - from)];
    }
}
