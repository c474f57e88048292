import java.util.List;

/** Promises 10, 11, 14, 15 on random programs, state by state against Model. */
public final class ModelTest {
    private static final int[] PLACES = {
        0, 1, 2, 25, 26, 27, 28, 29, 30, 31, 32, 91, 92, 93, 94, 95, 96, 97, 1021, 1022, 1023, 1024, 1025,
        65534, 65535
    };

    private static long seed = 20261118;

    private static int random(int below) {
        seed = seed * 6364136223846793005L + 1442695040888963407L;
        return (int) Math.floorMod(seed >>> 33, (long) below);
    }

    private static int randomWord() {
        if (random(12) == 0) {
            return random(65536);
        }
        List<Integer> words = Patterns.wordsOf(random(Patterns.kinds()));
        return words.get(random(words.size()));
    }

    private static int randomPlace() {
        return random(3) == 0 ? PLACES[random(PLACES.length)] : random(1024);
    }

    private final FlagCore x = new FlagCore();
    private final Model m = new Model();
    private final String name;

    private ModelTest(int run) {
        name = "run " + run + ": ";
    }

    private void putPair(int low, int v) {
        Check.setPair(x, low, v);
        m.data[low] = v & 255;
        m.data[low + 1] = v >> 8;
    }

    private void put(int place, int v) {
        Check.due(name + "put(" + place + ")", x.put(place, v), m.data[place]);
        m.data[place] = v;
    }

    private void fillCode(int first, int rows) {
        for (int row = 0; row < rows; row++) {
            long four = 0;
            for (int i = 0; i < 4; i++) {
                // the word behind one with a next word is an address as a rule
                int w = random(5) == 0 ? random(1040) : randomWord();
                m.code[(first + 4 * row + i) % 1024] = w;
                four = four << 16 | w;
            }
            x.load((first + 4 * row) % 1024, four);
        }
    }

    private void disturb() {
        switch (random(9)) {
            case 0 -> putPair(26, randomPlace());
            case 1 -> putPair(28, randomPlace());
            case 2 -> putPair(30, randomPlace());
            case 3, 4 -> putPair(93, randomPlace());
            case 5 -> put(95, random(256));
            case 6 -> {
                int v = 1 + random(25);
                Check.due(name + "ask", x.ask(v), m.asked >> v & 1 ^ 1);
                m.asked |= 1 << v;
            }
            case 7 -> put(random(32), random(256));
            default -> {
                int to = random(1024);
                Check.due(name + "go", x.go(to), m.pc);
                m.pc = to;
            }
        }
    }

    private void stepBoth(int at) {
        String call = name + "step " + at + " of " + Patterns.name(m.code[m.pc]) + ": ";
        int how = m.step();
        Check.due(call + "step()", x.step(), how);
        Check.due(call + "digest()", x.digest(), m.digest());
        Check.due(call + "told(6)", x.told(6), m.waited ? 1 : 0);
        Check.due(call + "told(7)", x.told(7), m.asked);
    }

    private void compareAll() {
        int[] told = {m.pc, m.pair(93), m.data[95], m.pair(26), m.pair(28), m.pair(30), m.waited ? 1 : 0, m.asked};
        for (int i = 0; i < told.length; i++) {
            Check.due(name + "told(" + i + ")", x.told(i), told[i]);
        }
        for (int i = 0; i < 7; i++) {
            Check.due(name + "count(" + i + ")", x.count(i), m.counts[i]);
        }
        Check.due(name + "ended()", x.ended(), m.ended);
        Check.due(name + "digest()", x.digest(), m.digest());
    }

    private void stepwise() {
        fillCode(random(1024), 64);
        for (int i = 0; i < 20; i++) {
            put(random(random(2) == 0 ? 32 : 1024), random(256));
        }
        putPair(93, randomPlace());
        for (int i = 0; i < 50; i++) {
            if (m.ended > 1 || random(4) == 0) {
                disturb();
            }
            stepBoth(i);
        }
        compareAll();
    }

    private void longRuns() {
        fillCode(0, 256);
        putPair(93, 1023);
        for (int i = 0; i < 60; i++) {
            disturb();
            int steps = 1 + random(random(2) == 0 ? 10 : 3000);
            int done = 0;
            while (done < steps && m.step() <= 1) {
                done++;
            }
            Check.due(name + "run(" + steps + ")", x.run(steps), done);
        }
        compareAll();
    }

    public static void main(String[] args) {
        for (int run = 0; run < 6000; run++) {
            new ModelTest(run).stepwise();
        }
        for (int run = 0; run < 150; run++) {
            new ModelTest(6000 + run).longRuns();
        }
        Check.finish("ModelTest");
    }
}
