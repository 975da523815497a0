/** All promises: long runs of calls, drawn by seeds, of the class and of the model side by side. */
public final class ModelTest {
    private static final int RUNS = 1500;
    private static final int CALLS = 512;

    private long state;
    private ClueLeave x;
    private Model m;

    public static void main(String[] args) {
        ModelTest t = new ModelTest();
        for (int run = 0; run < RUNS; run++) {
            t.play(run);
        }
        Due.end("ModelTest");
    }

    /** A number from 0 on, below n. */
    private int draw(int n) {
        state = state * 6364136223846793005L + 1442695040888963407L;
        return (int) ((state >>> 33) % n);
    }

    /** Mostly a number from least to most; at times one beside them, or far off. */
    private int near(int least, int most) {
        int kind = draw(40);
        if (kind == 0) {
            return least - 1;
        }
        if (kind == 1) {
            return most + 1;
        }
        if (kind == 2) {
            int[] far = {Integer.MIN_VALUE, Integer.MAX_VALUE, -1000, 1000, 64};
            return far[draw(far.length)];
        }
        return least + draw(most - least + 1);
    }

    private int clue() {
        return near(0, Math.max(0, m.count(1) - 1));
    }

    private void play(int run) {
        state = run * 7919L + 17;
        x = new ClueLeave();
        m = new Model();
        int calls = 0;
        while (calls < CALLS - 110) {
            calls += step(run + ", call " + calls);
        }
    }

    private int step(String name) {
        int sort = draw(100);
        if (sort < 2) {
            return text(name);
        }
        if (sort < 18) {
            row(name, draw(6));
            return 1;
        }
        if (sort < 24) {
            return tellRow(name);
        }
        if (sort < 48) {
            act(name, draw(7));
            return 1;
        }
        if (sort < 82) {
            foretell(name, draw(12));
            return 1;
        }
        return ask(name, draw(9));
    }

    private int text(String name) {
        StringBuilder text = new StringBuilder();
        int suspects = 2 + draw(5);
        text.append("c").append(suspects).append(",").append(draw(7)).append(";");
        int clues = draw(8) == 0 ? 7 : draw(7);
        for (int i = 0; i < clues; i++) {
            int every = 2 + draw(3);
            text.append("tgvsa".charAt(draw(5))).append(1 + draw((1 << suspects) - 1)).append(",").append(every)
                .append(",").append(draw(every)).append(";");
        }
        if (draw(3) == 0) {
            String others = "tgvsac0123456789,;,; xT\u00e9";
            int at = draw(text.length());
            int how = draw(3);
            if (how == 0) {
                text.setCharAt(at, others.charAt(draw(others.length())));
            } else if (how == 1) {
                text.insert(at, others.charAt(draw(others.length())));
            } else {
                text.setLength(at);
            }
        }
        int n = Math.min(text.length(), 100);
        for (int i = 0; i < n; i++) {
            Due.due(name + ", feed", x.feed(text.charAt(i)), m.feed(text.charAt(i)));
        }
        Due.due(name + ", city of " + text, x.city(), m.city());
        Due.due(name + ", fault of " + text, x.fault(), m.fault());
        return n + 2;
    }

    private void row(String name, int sort) {
        int r = near(0, 2);
        int a = near(0, 2);
        switch (sort) {
            case 0: {
                int lane = draw(3) == 0 ? near(0, 2) : 0;
                int n = near(0, 40);
                Due.due(name + ", row", x.row(r, lane, n), m.row(r, lane, n));
                break;
            }
            case 1: {
                int i = near(0, 20);
                int v = near(-70000, 70000);
                Due.due(name + ", set", x.set(r, i, v), m.set(r, i, v));
                break;
            }
            case 2: {
                int i = near(0, 10);
                int j = near(0, 10);
                int n = near(0, 10);
                Due.due(name + ", copy", x.copy(r, i, a, j, n), m.copy(r, i, a, j, n));
                break;
            }
            case 3:
                if (draw(4) == 0) {
                    Due.due(name + ", drop", x.drop(r), m.drop(r));
                }
                break;
            case 4: {
                int b = near(0, 255);
                if (draw(6) == 0) {
                    Due.due(name + ", feed", x.feed(b), m.feed(b));
                }
                break;
            }
            default:
                Due.due(name + ", status", x.status(), m.status());
        }
    }

    /** A row is told what is so, or what would be so if one clue were otherwise, and is asked. */
    private int tellRow(String name) {
        int r = draw(3);
        int from = draw(4);
        int n = 1 + draw(8);
        Due.due(name + ", row", x.row(r, 1, 20), m.row(r, 1, 20));
        int c = clue();
        int way = draw(3);
        if (way == 1) {
            int on = 1 - Math.max(0, m.clue(c, 3));
            Due.due(name + ", bribe", x.bribe(c, on), m.bribe(c, on));
        } else if (way == 2) {
            int v = draw(3);
            Due.due(name + ", shift", x.shift(c, v), m.shift(c, v));
        }
        for (int i = 0; i < n; i++) {
            int left = m.ahead(i, 0);
            Due.due(name + ", set", x.set(r, from + i, left), m.set(r, from + i, left));
        }
        if (way > 0) {
            Due.due(name + ", undo", x.undo(), m.undo());
        }
        Due.due(name + ", bribes", x.bribes(r, from, n), m.bribes(r, from, n));
        Due.due(name + ", fits 0", x.fits(c, r, from, n, 0), m.fits(c, r, from, n, 0));
        Due.due(name + ", fits 1", x.fits(c, r, from, n, 1), m.fits(c, r, from, n, 1));
        return n + 6;
    }

    private void act(String name, int sort) {
        int c = clue();
        switch (sort) {
            case 0: {
                int n = draw(3) == 0 ? near(1, 24) : 1 + draw(3);
                Due.due(name + ", days", x.days(n), m.days(n));
                break;
            }
            case 1: {
                int on = near(0, 1);
                Due.due(name + ", bribe", x.bribe(c, on), m.bribe(c, on));
                break;
            }
            case 2: {
                int tells = near(1, (1 << Math.max(1, m.count(2))) - 1);
                Due.due(name + ", learn", x.learn(c, tells), m.learn(c, tells));
                break;
            }
            case 3: {
                int v = near(0, 3);
                Due.due(name + ", shift", x.shift(c, v), m.shift(c, v));
                break;
            }
            case 4:
                Due.due(name + ", undo", x.undo(), m.undo());
                break;
            case 5: {
                int k = near(0, 1);
                Due.due(name + ", image", x.image(k), m.image(k));
                break;
            }
            default: {
                int k = near(0, 1);
                if (draw(3) == 0) {
                    Due.due(name + ", restore", x.restore(k), m.restore(k));
                }
            }
        }
    }

    private void foretell(String name, int sort) {
        int d = near(0, 99);
        int what = near(0, 1);
        int row = near(0, 2);
        int i = near(0, 20);
        switch (sort) {
            case 0:
            case 1: {
                int w = near(0, 2);
                Due.due(name + ", ahead", x.ahead(d, w), m.ahead(d, w));
                break;
            }
            case 2:
                Due.due(name + ", first", x.first(what), m.first(what));
                break;
            case 3:
                rota(name);
                break;
            case 4: {
                int s = near(0, Math.max(0, m.count(2) - 1));
                int n = near(1, 60);
                Due.due(name + ", when", x.when(s, n), m.when(s, n));
                break;
            }
            case 5:
                Due.due(name + ", enough", x.enough(d, what), m.enough(d, what));
                break;
            case 6:
                Due.due(name + ", clash", x.clash(d, what), m.clash(d, what));
                break;
            case 7: {
                int n = near(1, 16);
                Due.due(name + ", bribes", x.bribes(row, i, n), m.bribes(row, i, n));
                break;
            }
            case 8: {
                int n = near(1, 16);
                int c = clue();
                Due.due(name + ", fits", x.fits(c, row, i, n, what), m.fits(c, row, i, n, what));
                break;
            }
            case 9: {
                int c = near(0, 10);
                Due.due(name + ", strike", x.strike(d, c, what), m.strike(d, c, what));
                break;
            }
            default: {
                int n = near(0, 60);
                int seed = near(1, 999999);
                Due.due(name + ", drawn", x.drawn(n, seed, what), m.drawn(n, seed, what));
            }
        }
    }

    /** The model tries a rota on thousands of tables anew: seldom, and mostly on a few days. */
    private void rota(String name) {
        if (draw(3) == 0) {
            int n = draw(4) == 0 ? near(1, 14) : near(1, 4);
            int k = near(-1, 5);
            Due.due(name + ", rota", x.rota(n, k), m.rota(n, k));
        }
    }

    private int ask(String name, int sort) {
        int c = clue();
        switch (sort) {
            case 0:
            case 1: {
                int what = near(0, 5);
                Due.due(name + ", clue", x.clue(c, what), m.clue(c, what));
                return 1;
            }
            case 2:
                Due.due(name + ", kind", x.kind(c), m.kind(c));
                return 1;
            case 3: {
                int kind = near(0, 5);
                Due.due(name + ", as", x.as(c, kind), m.as(c, kind));
                return 1;
            }
            case 4:
            case 5: {
                int what = near(0, 1);
                Due.due(name + ", ask", x.ask(c, what), m.ask(c, what));
                for (int i = 0; i < 7; i++) {
                    Due.due(name + ", trace", x.trace(i), m.trace(i));
                }
                return 8;
            }
            case 6: {
                int what = near(0, 7);
                Due.due(name + ", count", x.count(what), m.count(what));
                return 1;
            }
            case 7: {
                int i = near(0, 15);
                Due.due(name + ", trace", x.trace(i), m.trace(i));
                return 1;
            }
            default:
                Due.due(name + ", status", x.status(), m.status());
                return 1;
        }
    }
}
