/**
 * Many runs of some 500 calls, the same every time, each answer held against PlainBoard's. What a run
 * likes to call and with what arguments differs from run to run, so that rare states are reached.
 */
public final class RandomRunsTest {
    private static final int RUNS = 6000;
    private static final int CALLS = 460;
    private static final int METHODS = 24;
    private static final int[] ODD = {-1, 3, 4, 9, 300, Integer.MIN_VALUE, Integer.MAX_VALUE};

    private static long seed;
    private static int method;
    private static final int[] args = new int[5];
    private static final int[] weights = new int[METHODS];
    private static int writersFirst;
    private static int points;
    private static int readers;

    public static void main(String[] unused) {
        int mostLetters = 0;
        int laterRounds = 0;
        int remembered = 0;
        int believedOfTwo = 0;
        int busy = 0;
        for (int run = 1; run <= RUNS; run++) {
            seed = run * 0x9E3779B97F4A7C15L;
            boolean narrow = run % 2 == 0;
            int rounds = narrow ? 1 + below(2) : below(13) - 2;
            PlainBoard plain = new PlainBoard(rounds);
            SpanBoard board = new SpanBoard(rounds);
            chooseWeights(narrow);
            for (int n = 0; n < CALLS; n++) {
                choose(plain);
                compare(run, board, plain);
            }
            lookAtAll(run, board, plain);
            busy += plain.busy;
            mostLetters = Math.max(mostLetters, plain.mostLetters);
            laterRounds += plain.laterRounds;
            remembered += plain.remembered;
            believedOfTwo += plain.believedOfTwo;
        }
        System.out.println("most letters " + mostLetters + ", later rounds " + laterRounds + ", remembered "
            + remembered + ", two pairs believed " + believedOfTwo + ", busy " + busy);
        Check.due("most letters", mostLetters, 300);
        Check.yes("a later round was reached", laterRounds > 50);
        Check.yes("a remembered pair was answered", remembered > 50);
        Check.yes("a reader chose among pairs", believedOfTwo > 50);
        Check.yes("BUSY was answered", busy > 50);
        Check.end();
    }

    private static int below(int bound) {
        seed = seed * 6364136223846793005L + 1442695040888963407L;
        return (int) ((seed >>> 33) % bound);
    }

    /** A narrow run is about one point, with its writer or one reader in a hurry. */
    private static void chooseWeights(boolean narrow) {
        for (int m = 0; m < METHODS; m++) {
            weights[m] = 1 + below(narrow ? 2 : 4);
        }
        weights[1] += narrow ? 60 : 10;
        weights[2] += narrow ? 60 : 10;
        weights[7] += narrow ? 300 : 40 + below(200);
        weights[8] += below(3) == 0 && !narrow ? 20 : 0;
        weights[10] += below(3) == 0 && !narrow ? 40 : 0;
        weights[3] += below(4) == 0 && !narrow ? 20 : 0;
        weights[4] += below(4) == 0 && !narrow ? 20 : 0;
        weights[12] += below(3) == 0 || narrow ? 15 : 0;
        weights[13] += below(3) == 0 || narrow ? 15 : 0;
        weights[14] = below(narrow ? 2 : 3);
        weights[16] = below(narrow ? 2 : 3);
        boolean hurriedReader = narrow && below(2) == 0;
        writersFirst = !narrow ? below(11) : hurriedReader ? below(3) : 7 + below(3);
        points = narrow ? 1 : 1 + below(4);
        readers = hurriedReader ? 1 : 3;
    }

    private static void choose(PlainBoard plain) {
        int total = 0;
        for (int weight : weights) {
            total += weight;
        }
        int left = below(total);
        method = 0;
        while (left >= weights[method]) {
            left -= weights[method];
            method++;
        }
        for (int i = 0; i < args.length; i++) {
            args[i] = below(10);
        }
        chooseUsual(plain);
        if (below(40) == 0) {
            args[below(args.length)] = ODD[below(ODD.length)];
        }
    }

    /** A place in the post; some runs hurry the writers' letters, others the readers'. */
    private static int choosePlace(PlainBoard plain) {
        int letters = plain.call(5, 0, 0, 0, 0, 0);
        int place = below(letters + 1);
        boolean writers = below(10) < writersFirst;
        for (int n = 0; n < letters; n++) {
            int other = (place + n) % letters;
            if (plain.call(6, other, 0, 0, 0, 0) <= 2 == writers) {
                return other;
            }
        }
        return place;
    }

    /** Arguments that a call can mostly do something with. */
    private static void chooseUsual(PlainBoard plain) {
        switch (method) {
            case 0: args[0] = below(points); args[1] = below(3); break;
            case 1: args[0] = below(points); args[2] = args[1] + below(5) - 1; break;
            case 2: args[0] = below(readers); args[1] = below(points); break;
            case 3: case 16: args[0] = below(points); break;
            case 4: case 17: args[0] = below(readers); break;
            case 6: args[0] = choosePlace(plain); args[1] = below(6); break;
            case 7: case 9: case 10: args[0] = choosePlace(plain); break;
            case 8: args[0] = below(9) == 0 ? below(400) : below(12); break;
            case 12: args[1] = below(readers); args[2] = below(4); args[3] = below(3); args[4] = below(6); break;
            case 13: args[1] = below(points); break;
            case 18: args[0] = below(3); args[1] = below(5); break;
            case 19: args[0] = below(3); args[1] = below(4); break;
            case 20: args[0] = below(points); args[1] = below(5); break;
            case 21: args[1] = below(points); args[2] = below(4); break;
            case 22: args[0] = below(3); break;
            case 23: args[0] = below(4) - 1; break;
            default: break;
        }
    }

    private static int call(SpanBoard x) {
        int a = args[0];
        int b = args[1];
        switch (method) {
            case 0: return x.hall(a, b) ? 1 : 0;
            case 1: return x.write(a, b, args[2]);
            case 2: return x.read(a, b);
            case 3: return x.storeAgain(a);
            case 4: return x.askAgain(a);
            case 5: return x.letters();
            case 6: return x.letter(a, b);
            case 7: return x.deliver(a) ? 1 : 0;
            case 8: return x.deliverAll(a);
            case 9: return x.lose(a) ? 1 : 0;
            case 10: return x.twin(a) ? 1 : 0;
            case 11: return x.lie(a) ? 1 : 0;
            case 12: return x.tell(a, b, args[2], args[3], args[4]) ? 1 : 0;
            case 13: return x.receipt(a, b) ? 1 : 0;
            case 14: return x.crash(a) ? 1 : 0;
            case 15: return x.restart(a) ? 1 : 0;
            case 16: return x.forget(a) ? 1 : 0;
            case 17: return x.outcome(a);
            case 18: return x.answered(a, b);
            case 19: return x.reader(a, b);
            case 20: return x.writer(a, b);
            case 21: return x.held(a, b, args[2]);
            case 22: return x.measured(a, b) ? 1 : 0;
            default: return x.alarm(a);
        }
    }

    private static void compare(int run, SpanBoard board, PlainBoard plain) {
        int want = plain.call(method, args[0], args[1], args[2], args[3], args[4]);
        Check.due("run " + run + ", method " + method, call(board), want);
    }

    /** How a run ended: of every reader and writer all that they tell. */
    private static void lookAtAll(int run, SpanBoard board, PlainBoard plain) {
        int[][] looks = {{17, 3, 1}, {18, 3, 4}, {19, 3, 3}, {20, 4, 4}, {23, 3, 1}, {5, 1, 1}};
        for (int[] look : looks) {
            method = look[0];
            for (args[0] = 0; args[0] < look[1]; args[0]++) {
                for (args[1] = 0; args[1] < look[2]; args[1]++) {
                    compare(run, board, plain);
                }
            }
        }
    }
}
