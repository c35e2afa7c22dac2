import java.util.ArrayList;
import java.util.HashMap;
import java.util.List;
import java.util.Map;
import java.util.TreeSet;

/**
 * The document once more, written for a reader's eye and apart from SpanBoard, as what random runs
 * are held against. Booleans count 1 or 0.
 */
final class PlainBoard {
    private record Pair(int number, int low, int high) {
    }

    private record Letter(int kind, int recorder, int point, int reader, int number, Pair pair) {
    }

    private static final class Reading {
        int question;
        int round;
        int point;
        int outcome;
        Map<Integer, Pair> told = new HashMap<>();
        Map<Integer, Pair> memory = new HashMap<>();
        int answeredPoint;
        Pair answered;
    }

    private static final Pair ZERO = new Pair(0, 0, 0);
    private final int rounds;
    private final List<Letter> post = new ArrayList<>();
    private final Map<Integer, Pair> kept = new HashMap<>();
    private final TreeSet<Integer> down = new TreeSet<>();
    private final TreeSet<Integer> liars = new TreeSet<>();
    private final Pair[] written = {ZERO, ZERO, ZERO, ZERO};
    private final boolean[] open = new boolean[4];
    private final int[] finished = new int[4];
    private final List<TreeSet<Integer>> receipts = new ArrayList<>();
    private final Reading[] readings = {new Reading(), new Reading(), new Reading()};
    private final int[] halls = new int[4];
    private final Integer[] values = new Integer[3];
    private final Pair[] seen = new Pair[4];

    int mostLetters = 0;
    int laterRounds = 0;
    int remembered = 0;
    int believedOfTwo = 0;
    int busy = 0;

    PlainBoard(int rounds) {
        this.rounds = rounds < 1 ? 1 : rounds > 9 ? 9 : rounds;
        for (int p = 0; p < 4; p++) {
            receipts.add(new TreeSet<>());
        }
    }

    /** A call by its number in the document's face, from 0 (hall) to 23 (alarm). */
    int call(int method, int a, int b, int c, int d, int e) {
        switch (method) {
            case 0: return point(a) && hall(b) ? set(() -> halls[a] = b) : 0;
            case 1: return write(a, b, c);
            case 2: return read(a, b);
            case 3: return point(a) && open[a] ? stores(a) : -1;
            case 4: return reads(a) ? asks(a) : -1;
            case 5: return post.size();
            case 6: return letter(a, b);
            case 7: return place(a) ? set(() -> come(post.remove(a))) : 0;
            case 8: return deliverAll(a);
            case 9: return place(a) ? set(() -> post.remove(a)) : 0;
            case 10: return place(a) && post.size() < 300 ? set(() -> post.add(post.get(a))) : 0;
            case 11: return recorder(a) && liars.size() < 2 && liars.add(a) ? 1 : 0;
            case 12: return tell(a, b, new Pair(c, d, e));
            case 13: return receipt(a, b);
            case 14: return recorder(a) && down.add(a) ? 1 : 0;
            case 15: return down.remove(a) ? 1 : 0;
            case 16: return point(a) ? set(() -> receipts.get(a).clear()) : 0;
            case 17: return aReader(a) ? readings[a].outcome : -1;
            case 18: return answered(a, b);
            case 19: return reader(a, b);
            case 20: return writer(a, b);
            case 21: return recorder(a) && point(b) ? part(keptBy(a, b), c) : -1;
            case 22: return hall(a) ? set(() -> values[a] = b) : 0;
            default: return alarm(a);
        }
    }

    private static int set(Runnable change) {
        change.run();
        return 1;
    }

    private boolean point(int p) {
        return 0 <= p && p <= 3;
    }

    private boolean hall(int h) {
        return 0 <= h && h <= 2;
    }

    private boolean recorder(int r) {
        return 0 <= r && r <= 8;
    }

    private boolean aReader(int r) {
        return 0 <= r && r <= 2;
    }

    private boolean reads(int r) {
        return aReader(r) && readings[r].outcome == 1;
    }

    private boolean place(int i) {
        return 0 <= i && i < post.size();
    }

    private Pair keptBy(int recorder, int point) {
        return kept.getOrDefault(recorder * 10 + point, ZERO);
    }

    private static int part(Pair pair, int field) {
        return field == 0 ? pair.number : field == 1 ? pair.low : field == 2 ? pair.high : -1;
    }

    private void send(Letter letter) {
        if (post.size() < 300) {
            post.add(letter);
        }
        mostLetters = Math.max(mostLetters, post.size());
    }

    private int write(int p, int low, int high) {
        if (!point(p) || open[p] || low > high) {
            return -1;
        }
        written[p] = new Pair(written[p].number + 1, low, high);
        open[p] = true;
        receipts.get(p).clear();
        stores(p);
        return written[p].number;
    }

    private int stores(int p) {
        for (int r = 0; r <= 8; r++) {
            if (!receipts.get(p).contains(r)) {
                send(new Letter(1, r, p, -1, written[p].number, written[p]));
            }
        }
        return 9 - receipts.get(p).size();
    }

    private int read(int r, int p) {
        if (!aReader(r) || !point(p) || reads(r)) {
            return -1;
        }
        readings[r].outcome = 1;
        readings[r].point = p;
        readings[r].round = 0;
        nextRound(r);
        return readings[r].question;
    }

    private void nextRound(int r) {
        readings[r].round++;
        readings[r].question++;
        readings[r].told.clear();
        asks(r);
    }

    private int asks(int reader) {
        Reading x = readings[reader];
        for (int r = 0; r <= 8; r++) {
            if (!x.told.containsKey(r)) {
                send(new Letter(3, r, x.point, reader, x.question, null));
            }
        }
        return 9 - x.told.size();
    }

    private int letter(int i, int what) {
        if (!place(i) || what < 0 || what > 4) {
            return -1;
        }
        Letter l = post.get(i);
        return new int[] {l.kind, l.recorder, l.point, l.reader, l.number}[what];
    }

    private int deliverAll(int n) {
        int done = 0;
        for (; done < n && !post.isEmpty(); done++) {
            come(post.remove(0));
        }
        return done;
    }

    private void come(Letter l) {
        boolean honestAndUp = !down.contains(l.recorder) && !liars.contains(l.recorder);
        if (l.kind == 1 && honestAndUp) {
            if (l.number > keptBy(l.recorder, l.point).number) {
                kept.put(l.recorder * 10 + l.point, l.pair);
            }
            send(new Letter(2, l.recorder, l.point, -1, l.number, null));
        } else if (l.kind == 3 && honestAndUp) {
            send(new Letter(4, l.recorder, l.point, l.reader, l.number, keptBy(l.recorder, l.point)));
        } else if (l.kind == 2 && open[l.point] && l.number == written[l.point].number) {
            receipts.get(l.point).add(l.recorder);
            if (receipts.get(l.point).size() == 7) {
                open[l.point] = false;
                finished[l.point] = l.number;
            }
        } else if (l.kind == 4 && reads(l.reader) && l.number == readings[l.reader].question) {
            readings[l.reader].told.putIfAbsent(l.recorder, l.pair);
            if (readings[l.reader].told.size() == 7) {
                look(l.reader);
            }
        }
    }

    private void look(int r) {
        Reading x = readings[r];
        Map<Pair, Integer> votes = new HashMap<>();
        for (Pair pair : x.told.values()) {
            votes.merge(pair, 1, Integer::sum);
        }
        List<Pair> believed = new ArrayList<>();
        for (Map.Entry<Pair, Integer> vote : votes.entrySet()) {
            if (vote.getValue() >= 3) {
                believed.add(vote.getKey());
            }
        }
        believed.sort((m, n) -> m.number != n.number ? Integer.compare(n.number, m.number)
            : m.low != n.low ? Integer.compare(m.low, n.low) : Integer.compare(m.high, n.high));
        believedOfTwo += believed.size() > 1 ? 1 : 0;
        if (!believed.isEmpty()) {
            Pair memory = x.memory.getOrDefault(x.point, ZERO);
            boolean old = believed.get(0).number < memory.number;
            remembered += old ? 1 : 0;
            x.answered = old ? memory : believed.get(0);
            x.answeredPoint = x.point;
            x.memory.put(x.point, x.answered);
            x.outcome = 2;
            seen[x.point] = x.answered;
        } else if (x.round == rounds) {
            x.outcome = 3;
            busy++;
        } else {
            laterRounds++;
            nextRound(r);
        }
    }

    private int tell(int liar, int r, Pair pair) {
        if (!liars.contains(liar) || down.contains(liar) || !reads(r)
                || pair.number < 0 || pair.low > pair.high) {
            return 0;
        }
        send(new Letter(4, liar, readings[r].point, r, readings[r].question, pair));
        return 1;
    }

    private int receipt(int liar, int p) {
        if (!liars.contains(liar) || down.contains(liar) || !point(p) || written[p].number == 0) {
            return 0;
        }
        send(new Letter(2, liar, p, -1, written[p].number, null));
        return 1;
    }

    private int answered(int r, int field) {
        if (!aReader(r) || readings[r].answered == null || field < 0 || field > 3) {
            return -1;
        }
        return field == 0 ? readings[r].answeredPoint : part(readings[r].answered, field - 1);
    }

    private int reader(int r, int what) {
        if (!aReader(r) || what < 0 || what > 2) {
            return -1;
        }
        if (what == 0) {
            return readings[r].question;
        }
        return !reads(r) ? 0 : what == 1 ? readings[r].round : readings[r].told.size();
    }

    private int writer(int p, int what) {
        if (!point(p) || what < 0 || what > 3) {
            return -1;
        }
        int isOpen = open[p] ? 1 : 0;
        return new int[] {written[p].number, isOpen, receipts.get(p).size(), finished[p]}[what];
    }

    private int alarm(int i) {
        TreeSet<Integer> alarmed = new TreeSet<>();
        for (int p = 0; p <= 3; p++) {
            Integer value = values[halls[p]];
            if (value != null && seen[p] != null && (value < seen[p].low || value > seen[p].high)) {
                alarmed.add(halls[p]);
            }
        }
        List<Integer> inOrder = new ArrayList<>(alarmed);
        return i >= 0 && i < inOrder.size() ? inOrder.get(i) : -1;
    }
}
