import java.util.ArrayList;
import java.util.List;
import java.util.Random;
import java.util.TreeMap;

// Runs of up to 512 calls, drawn from fixed seeds, against a slow model that follows the document word by word.
public final class ModelTests {
    private static final int RUNS = 4000;
    private static final int CALLS = 512;

    private static int wrong = 0;

    private record Change(int actor, int seq, int[] clock, int label) {
    }

    private static final class Model {
        private int[] gate = new int[8];
        private List<Change> came = new ArrayList<>();
        private TreeMap<Integer, Change> wait = new TreeMap<>();
        private int knownOffers = 0;
        private int most = 0;

        void clear() {
            gate = new int[8];
            came = new ArrayList<>();
            wait = new TreeMap<>();
            knownOffers = 0;
            most = 0;
        }

        boolean can(Change c) {
            boolean all = c.seq() == gate[c.actor()] + 1;
            for (int a = 0; a < 8; a++) {
                all = all && (a == c.actor() || c.clock()[a] <= gate[a]);
            }
            return all;
        }

        boolean known(int actor, int seq) {
            return actor >= 0 && actor <= 7 && seq >= 1 && seq <= 255
                && (seq <= gate[actor] || wait.containsKey(actor * 1000 + seq));
        }

        String offer(int actor, int seq, long clock, int label) {
            if (actor < 0 || actor > 7 || seq < 1 || seq > 255) {
                return "IllegalArgumentException";
            }
            if (known(actor, seq)) {
                knownOffers++;
                return "0";
            }
            // Tried on copies, so that 65 behind the offer can be found out and taken back.
            TreeMap<Integer, Change> waitBefore = new TreeMap<>(wait);
            int[] gateBefore = gate.clone();
            int cameBefore = came.size();
            wait.put(actor * 1000 + seq, new Change(actor, seq, bytes(clock), label));
            for (Change c = least(); c != null; c = least()) {
                wait.remove(c.actor() * 1000 + c.seq());
                gate[c.actor()] = c.seq();
                came.add(c);
            }
            if (wait.size() > 64) {
                wait = waitBefore;
                gate = gateBefore;
                came = new ArrayList<>(came.subList(0, cameBefore));
                return "IllegalStateException";
            }
            most = Math.max(most, wait.size());
            return "" + (came.size() - cameBefore);
        }

        Change least() {
            Change best = null;
            for (Change c : wait.values()) {
                if (can(c) && (best == null || c.actor() < best.actor())) {
                    best = c;
                }
            }
            return best;
        }

        String through(int i, int what) {
            if (i < 0 || i >= came.size() || what < 0 || what > 2) {
                return "IndexOutOfBoundsException";
            }
            Change c = came.get(i);
            return "" + new int[] {c.actor(), c.seq(), c.label()}[what];
        }

        String waiting(int i, int what) {
            if (i < 0 || i >= wait.size() || what < 0 || what > 4) {
                return "IndexOutOfBoundsException";
            }
            Change c = new ArrayList<>(wait.values()).get(i);
            int lacked = c.actor();
            if (gate[c.actor()] + 1 == c.seq()) {
                lacked = 0;
                while (lacked == c.actor() || c.clock()[lacked] <= gate[lacked]) {
                    lacked++;
                }
            }
            return "" + new int[] {c.actor(), c.seq(), c.label(), lacked, gate[lacked] + 1}[what];
        }

        int ahead(long clock) {
            int count = 0;
            for (Change c : came) {
                count += c.seq() > bytes(clock)[c.actor()] ? 1 : 0;
            }
            return count;
        }

        int next(long clock, int i) {
            for (int place = 0; place < came.size(); place++) {
                Change c = came.get(place);
                if (place > i && c.seq() > bytes(clock)[c.actor()]) {
                    return place;
                }
            }
            return -1;
        }

        int compare(long clock) {
            int answer = 0;
            for (int a = 0; a < 8; a++) {
                answer |= gate[a] > bytes(clock)[a] ? 1 : 0;
                answer |= gate[a] < bytes(clock)[a] ? 2 : 0;
            }
            return answer;
        }

        int forget(int actor) {
            int before = wait.size();
            wait.values().removeIf(c -> c.actor() == actor);
            return before - wait.size();
        }

        int look(int which) {
            return which < 0 || which > 3 ? -1 : new int[] {came.size(), wait.size(), knownOffers, most}[which];
        }

        long clock() {
            long clock = 0;
            for (int a = 7; a >= 0; a--) {
                clock = clock * 256 + gate[a];
            }
            return clock;
        }
    }

    private static int[] bytes(long clock) {
        int[] all = new int[8];
        for (int a = 0; a < 8; a++) {
            all[a] = (int) (clock >>> 8 * a & 255);
        }
        return all;
    }

    // What one run draws its calls from: how many actors take part, how wide SEQs spread, how much is looked at.
    private static final class Run {
        private final Random random;
        private final CausalGate gate = new CausalGate();
        private final Model model = new Model();
        private final int actors;
        private final int spread;
        private final int hanging;
        private final int offersOfTen;
        private final boolean clears;

        Run(int seed) {
            random = new Random(seed);
            actors = 1 + random.nextInt(8);
            spread = 1 + random.nextInt(random.nextBoolean() ? 3 : 30);
            hanging = random.nextInt(4);
            offersOfTen = 3 + random.nextInt(8);
            clears = random.nextInt(4) == 0;
        }

        int anyInt(int low, int high) {
            int[] odd = {low - 1, high + 1, Integer.MIN_VALUE, Integer.MAX_VALUE};
            return random.nextInt(25) == 0 ? odd[random.nextInt(4)] : low + random.nextInt(high - low + 1);
        }

        long anyClock() {
            if (random.nextInt(12) == 0) {
                return random.nextLong();
            }
            int[] near = model.gate.clone();
            for (int n = 0; n < 3; n++) {
                int a = random.nextInt(8);
                near[a] = Math.max(0, Math.min(255, near[a] + random.nextInt(5) - 2));
            }
            return joined(near);
        }

        // A clock that hangs a little ahead of the gate's, so that what waits is set free later.
        long offeredClock(int own) {
            int[] clock = new int[8];
            for (int n = 0; n < hanging; n++) {
                int a = random.nextInt(actors);
                clock[a] = Math.min(255, model.gate[a] + random.nextInt(3));
            }
            clock[own & 7] = random.nextInt(256);
            return random.nextInt(60) == 0 ? random.nextLong() : joined(clock);
        }

        long joined(int[] all) {
            long clock = 0;
            for (int a = 7; a >= 0; a--) {
                clock = clock << 8 | all[a];
            }
            return clock;
        }

        String[] offer() {
            int actor = anyInt(0, actors - 1);
            int at = actor >= 0 && actor < 8 ? model.gate[actor] : 0;
            int seq = random.nextInt(40) == 0 ? anyInt(1, 255) : at + random.nextInt(spread + 1) + (random.nextInt(6) == 0 ? 0 : 1);
            long clock = offeredClock(actor);
            int label = random.nextInt();
            return new String[] {
                "offer(" + actor + ", " + seq + ", " + clock + ", " + label + ")",
                theirs(() -> "" + gate.offer(actor, seq, clock, label)),
                model.offer(actor, seq, clock, label)};
        }

        String[] other() {
            int i = anyInt(-1, 70);
            int place = random.nextBoolean() ? i : anyInt(0, model.came.size());
            int what = anyInt(0, 4);
            int actor = anyInt(0, 7);
            int seq = anyInt(1, random.nextBoolean() ? 255 : 10);
            long clock = anyClock();
            switch (random.nextInt(clears ? 13 : 12)) {
                case 0: case 1:
                    return row("known " + actor + " " + seq, theirs(() -> "" + gate.known(actor, seq)), model.known(actor, seq));
                case 2:
                    return row("clock", theirs(() -> "" + gate.clock()), model.clock());
                case 3: case 4:
                    return row("through " + place + " " + what, theirs(() -> "" + gate.through(place, what)), model.through(place, what));
                case 5: case 6:
                    return row("waiting " + i + " " + what, theirs(() -> "" + gate.waiting(i, what)), model.waiting(i, what));
                case 7:
                    return row("ahead " + clock, theirs(() -> "" + gate.ahead(clock)), model.ahead(clock));
                case 8:
                    return row("next " + clock + " " + place, theirs(() -> "" + gate.next(clock, place)), model.next(clock, place));
                case 9:
                    return row("compare " + clock, theirs(() -> "" + gate.compare(clock)), model.compare(clock));
                case 10:
                    if (random.nextInt(8) == 0) {
                        return row("forget " + actor, theirs(() -> "" + gate.forget(actor)), model.forget(actor));
                    }
                    return row("look 1", theirs(() -> "" + gate.look(1)), model.look(1));
                case 11:
                    return row("look " + what, theirs(() -> "" + gate.look(what)), model.look(what));
                default:
                    if (random.nextInt(6) == 0) {
                        model.clear();
                        return row("clear", theirs(() -> cleared()), "done");
                    }
                    return row("look 3", theirs(() -> "" + gate.look(3)), model.look(3));
            }
        }

        String cleared() {
            gate.clear();
            return "done";
        }

        String[] row(String call, String got, Object want) {
            return new String[] {call, got, "" + want};
        }

        String[] any() {
            return random.nextInt(10) < offersOfTen ? offer() : other();
        }
    }

    private interface Call {
        String answer();
    }

    // The exact class is told, so that an exception of the machine is never taken for the document's.
    private static String theirs(Call call) {
        try {
            return call.answer();
        } catch (RuntimeException e) {
            return e.getClass().getSimpleName();
        }
    }

    private static boolean isOfMachine(String answer) {
        return answer.endsWith("Exception") && !answer.equals("IllegalArgumentException")
            && !answer.equals("IllegalStateException") && !answer.equals("IndexOutOfBoundsException");
    }

    public static void main(String[] args) {
        int full = 0;
        int chains = 0;
        for (int seed = 0; seed < RUNS; seed++) {
            Run run = new Run(seed);
            for (int call = 0; call < CALLS; call++) {
                String[] row = run.any();
                full += row[2].equals("IllegalStateException") ? 1 : 0;
                chains += row[0].startsWith("offer") && row[2].length() == 1 && row[2].compareTo("2") > 0 ? 1 : 0;
                if (!row[1].equals(row[2])) {
                    wrong++;
                    System.out.println("run " + seed + ", call " + call + ": " + row[0] + " answered " + row[1] + ", due is " + row[2]);
                    break;
                }
            }
        }
        if (full == 0 || chains == 0) {
            wrong++;
            System.out.println("the runs never filled the gate or never set a chain free");
        }
        beyondTheLastCall();
        System.out.println(wrong == 0 ? "all runs are as due" : wrong + " runs are not as due");
        if (wrong != 0) {
            System.exit(1);
        }
    }

    // Behind the 512th call any answer will do, but the machine must still not throw.
    private static void beyondTheLastCall() {
        CausalGate gate = new CausalGate();
        Random random = new Random(1);
        for (int call = 0; call < 4000; call++) {
            int actor = call % 8;
            // In order until well behind the 512th, then with gaps, so that both rows are filled.
            int seq = Math.min(255, call / 8 + 1 + (call < 1000 ? 0 : random.nextInt(2)));
            int i = random.nextInt(70);
            int what = random.nextInt(5);
            String[] answers = {
                theirs(() -> "" + gate.offer(actor, seq, 0L, 0)), theirs(() -> "" + gate.waiting(i, what)),
                theirs(() -> "" + gate.through(i * 10, what)), theirs(() -> "" + gate.next(0L, i * 10)),
                theirs(() -> "" + gate.known(actor, seq)), theirs(() -> "" + gate.ahead(0L))};
            for (String answer : answers) {
                if (isOfMachine(answer)) {
                    wrong++;
                    System.out.println("beyond the 512th call: " + answer);
                }
            }
        }
    }
}
