import java.util.ArrayDeque;
import java.util.ArrayList;
import java.util.Arrays;
import java.util.Deque;
import java.util.List;
import java.util.regex.Matcher;
import java.util.regex.Pattern;

/**
 * The document told a second time, with the library's own means and without regard to speed or room,
 * to be held against the program. It is asked with right arguments only, but for turnOff of a seat that is off.
 */
final class Model {
    record Message(int kind, int from, int to, int seat, int mood) {
    }

    private static final Pattern ORDERS =
        Pattern.compile("(?:[agrs](?:0[1-5]|1[02-5]|2[013-5]|3[0-245]|4[0-35]|5[0-4]);|[io][0-5][0-2];|d[0-9][0-9];)*");

    /** What undo brings back. */
    private static final class State {
        boolean[][] sees = new boolean[6][6];
        boolean[][] seen = new boolean[6][6];
        boolean[][] asked = new boolean[6][6];
        boolean[][] asking = new boolean[6][6];
        boolean[][] blocks = new boolean[6][6];
        int[][] entryVersion = new int[6][6];
        int[] version = new int[6];
        int[][][] view = new int[6][6][3];
        boolean[][] on = new boolean[6][3];
        int[][] rank = new int[6][3];
        int[][] mood = new int[6][3];
        List<Message> messages = new ArrayList<>();
        int sent;
        int arrived;
        int lost;

        State() {
            for (int[][] row : view) {
                for (int[] seats : row) {
                    Arrays.fill(seats, -1);
                }
            }
        }

        State copy() {
            State to = new State();
            for (int a = 0; a < 6; a++) {
                to.sees[a] = sees[a].clone();
                to.seen[a] = seen[a].clone();
                to.asked[a] = asked[a].clone();
                to.asking[a] = asking[a].clone();
                to.blocks[a] = blocks[a].clone();
                to.entryVersion[a] = entryVersion[a].clone();
                to.on[a] = on[a].clone();
                to.rank[a] = rank[a].clone();
                to.mood[a] = mood[a].clone();
                for (int b = 0; b < 6; b++) {
                    to.view[a][b] = view[a][b].clone();
                }
            }
            to.version = version.clone();
            to.messages = new ArrayList<>(messages);
            to.sent = sent;
            to.arrived = arrived;
            to.lost = lost;
            return to;
        }

        int entry(int a, int b) {
            return (sees[a][b] ? 1 : 0) + (seen[a][b] ? 2 : 0) + (asked[a][b] ? 4 : 0) + (asking[a][b] ? 8 : 0);
        }

        void noteChange(int a, int b, int before) {
            if (entry(a, b) != before) {
                entryVersion[a][b] = ++version[a];
            }
        }

        boolean there(int a) {
            return on[a][0] || on[a][1] || on[a][2];
        }

        boolean apart(int a, int b) {
            return blocks[a][b] || blocks[b][a];
        }

        void send(Message m) {
            if (apart(m.from, m.to)) {
                return;
            }
            sent++;
            if (messages.size() == 300) {
                lost++;
            } else {
                messages.add(m);
            }
        }

        void send(int kind, int a, int b) {
            send(new Message(kind, a, b, -1, -1));
        }

        void show(int a, int b) {
            for (int s = 0; s < 3; s++) {
                if (on[a][s]) {
                    send(new Message(4, a, b, s, mood[a][s]));
                }
            }
        }

        void hide(int a, int b) {
            for (int s = 0; s < 3; s++) {
                if (on[a][s]) {
                    send(new Message(5, a, b, s, -1));
                }
            }
        }

        int ask(int a, int b) {
            if (sees[a][b] || asked[a][b]) {
                return 0;
            }
            int before = entry(a, b);
            asked[a][b] = true;
            noteChange(a, b, before);
            send(0, a, b);
            return 1;
        }

        int grant(int a, int b) {
            if (!asking[a][b]) {
                return 0;
            }
            int before = entry(a, b);
            asking[a][b] = false;
            seen[a][b] = true;
            noteChange(a, b, before);
            send(1, a, b);
            show(a, b);
            return 1;
        }

        int refuse(int a, int b) {
            if (!seen[a][b] && !asking[a][b]) {
                return 0;
            }
            int before = entry(a, b);
            boolean was = seen[a][b];
            seen[a][b] = false;
            asking[a][b] = false;
            noteChange(a, b, before);
            send(3, a, b);
            if (was) {
                hide(a, b);
            }
            return 1;
        }

        int stop(int a, int b) {
            if (!sees[a][b] && !asked[a][b]) {
                return 0;
            }
            int before = entry(a, b);
            sees[a][b] = false;
            asked[a][b] = false;
            noteChange(a, b, before);
            send(2, a, b);
            Arrays.fill(view[a][b], -1);
            return 1;
        }

        int block(int a, int b, boolean blocked) {
            if (blocks[a][b] == blocked) {
                return 0;
            }
            if (blocked && seen[a][b]) {
                hide(a, b);
            }
            blocks[a][b] = blocked;
            if (blocked) {
                Arrays.fill(view[a][b], -1);
                return 1;
            }
            if (sees[a][b] && there(a)) {
                send(6, a, b);
            }
            if (seen[a][b]) {
                show(a, b);
            }
            return 1;
        }

        int seatsOn(int a) {
            return (on[a][0] ? 1 : 0) + (on[a][1] ? 1 : 0) + (on[a][2] ? 1 : 0);
        }

        int turnOn(int a, int s, int newRank, int newMood) {
            boolean was = there(a);
            on[a][s] = true;
            rank[a][s] = newRank;
            mood[a][s] = newMood;
            if (!was) {
                for (int b = 0; b < 6; b++) {
                    Arrays.fill(view[a][b], -1);
                }
                for (int b = 0; b < 6; b++) {
                    if (sees[a][b]) {
                        send(6, a, b);
                    }
                }
            }
            for (int b = 0; b < 6; b++) {
                if (seen[a][b]) {
                    send(new Message(4, a, b, s, newMood));
                }
            }
            return seatsOn(a);
        }

        int turnOff(int a, int s) {
            if (!on[a][s]) {
                throw new IllegalStateException();
            }
            on[a][s] = false;
            for (int b = 0; b < 6; b++) {
                if (seen[a][b]) {
                    send(new Message(5, a, b, s, -1));
                }
            }
            if (!there(a)) {
                for (int b = 0; b < 6; b++) {
                    Arrays.fill(view[a][b], -1);
                }
            }
            return seatsOn(a);
        }

        int deliver(int count) {
            int done = 0;
            while (done < count && !messages.isEmpty()) {
                Message m = messages.remove(0);
                done++;
                arrived++;
                if (!apart(m.from, m.to)) {
                    int before = entry(m.to, m.from);
                    takeEffect(m, m.from, m.to);
                    noteChange(m.to, m.from, before);
                }
            }
            return done;
        }

        void takeEffect(Message m, int a, int b) {
            if (m.kind == 0 && seen[b][a]) {
                send(1, b, a);
                show(b, a);
            } else if (m.kind == 0) {
                asking[b][a] = true;
            } else if (m.kind == 1 && asked[b][a]) {
                asked[b][a] = false;
                sees[b][a] = true;
            } else if (m.kind == 2 && (seen[b][a] || asking[b][a])) {
                seen[b][a] = false;
                asking[b][a] = false;
                hide(b, a);
            } else if (m.kind == 3) {
                sees[b][a] = false;
                asked[b][a] = false;
                Arrays.fill(view[b][a], -1);
            } else if (m.kind == 4 && sees[b][a] && there(b)) {
                view[b][a][m.seat] = m.mood;
            } else if (m.kind == 5) {
                view[b][a][m.seat] = -1;
            } else if (m.kind == 6 && seen[b][a]) {
                show(b, a);
            } else if (m.kind == 6) {
                send(3, b, a);
            }
        }

        boolean agree(int a, int b) {
            return sees[a][b] == seen[b][a] && sees[b][a] == seen[a][b]
                && asked[a][b] == asking[b][a] && asked[b][a] == asking[a][b];
        }

        int agreeing() {
            int pairs = 0;
            for (int a = 0; a < 6; a++) {
                for (int b = 0; b < a; b++) {
                    pairs += agree(a, b) ? 1 : 0;
                }
            }
            return pairs;
        }
    }

    private State now = new State();
    private final Deque<State> saved = new ArrayDeque<>();
    private final StringBuilder text = new StringBuilder();

    private void save(State state) {
        saved.addLast(state);
        if (saved.size() > 4) {
            saved.removeFirst();
        }
    }

    private void save() {
        save(now.copy());
    }

    int ask(int a, int b) {
        save();
        return now.ask(a, b);
    }

    int grant(int a, int b) {
        save();
        return now.grant(a, b);
    }

    int refuse(int a, int b) {
        save();
        return now.refuse(a, b);
    }

    int stop(int a, int b) {
        save();
        return now.stop(a, b);
    }

    int block(int a, int b, boolean blocked) {
        save();
        return now.block(a, b, blocked);
    }

    int turnOn(int a, int s, int rank, int mood) {
        save();
        return now.turnOn(a, s, rank, mood);
    }

    int turnOff(int a, int s) {
        State before = now.copy();
        int seats = now.turnOff(a, s);
        save(before);
        return seats;
    }

    int bestSeat(int a) {
        int best = -1;
        for (int s = 2; s >= 0; s--) {
            if (now.on[a][s] && now.rank[a][s] >= 0 && (best < 0 || now.rank[a][s] >= now.rank[a][best])) {
                best = s;
            }
        }
        return best;
    }

    int seat(int a, int s, int what) {
        return what == 0 ? now.on[a][s] ? 1 : 0 : what == 1 ? now.rank[a][s] : now.mood[a][s];
    }

    int deliver(int count) {
        save();
        return now.deliver(count);
    }

    int lose(int index) {
        save();
        now.lost++;
        return now.messages.remove(index).kind;
    }

    int underWay() {
        return now.messages.size();
    }

    int message(int index, int what) {
        Message m = now.messages.get(index);
        return new int[] {m.kind, m.from, m.to, m.seat, m.mood}[what];
    }

    int count(int what) {
        return what == 0 ? now.sent : what == 1 ? now.arrived : now.lost;
    }

    int entry(int a, int b) {
        return now.entry(a, b);
    }

    int version(int a, int b) {
        return b == -1 ? now.version[a] : now.entryVersion[a][b];
    }

    int changedSince(int a, int version) {
        return (int) Arrays.stream(now.entryVersion[a]).filter(v -> v > version).count();
    }

    int view(int a, int b, int s) {
        return now.view[a][b][s];
    }

    boolean areApart(int a, int b) {
        return now.apart(a, b);
    }

    boolean agree(int a, int b) {
        return now.agree(a, b);
    }

    int agreeing() {
        return now.agreeing();
    }

    int wrongViews(int a) {
        int wrong = 0;
        for (int b = 0; b < 6; b++) {
            for (int s = 0; s < 3 && b != a; s++) {
                int v = now.view[a][b][s];
                boolean falsely = v != -1 && (!now.on[b][s] || now.mood[b][s] != v || !now.sees[a][b]);
                boolean missing = v == -1 && now.sees[a][b] && now.there(a) && now.on[b][s];
                wrong += falsely || missing ? 1 : 0;
            }
        }
        return wrong;
    }

    int untilRest() {
        int arrivals = now.copy().deliver(1001);
        return arrivals > 1000 ? -1 : arrivals;
    }

    int agreeingAtRest() {
        State then = now.copy();
        return then.deliver(1001) > 1000 ? -1 : then.agreeing();
    }

    int mostNeeded() {
        int best = -1;
        int least = 16;
        for (int i = 0; i < now.messages.size(); i++) {
            State then = now.copy();
            then.messages.remove(i);
            if (then.deliver(1001) > 1000) {
                return -1;
            }
            if (then.agreeing() < least) {
                least = then.agreeing();
                best = i;
            }
        }
        return best;
    }

    double visible() {
        int pairs = 0;
        for (int[][] row : now.view) {
            for (int[] seats : row) {
                pairs += Arrays.stream(seats).anyMatch(v -> v != -1) ? 1 : 0;
            }
        }
        return pairs / 30.0;
    }

    int append(int value) {
        if (text.length() == 100) {
            throw new IllegalStateException();
        }
        return text.append((char) value).length();
    }

    int clearText() {
        int length = text.length();
        text.setLength(0);
        return length;
    }

    private int errorPosition() {
        if (ORDERS.matcher(text).matches()) {
            return -1;
        }
        for (int i = 1; i <= text.length(); i++) {
            Matcher start = ORDERS.matcher(text.substring(0, i));
            if (!start.matches() && !start.hitEnd()) {
                return i - 1;
            }
        }
        return text.length();
    }

    int carryOut() {
        if (errorPosition() >= 0) {
            return -10 - errorPosition();
        }
        State before = now.copy();
        String[] orders = text.length() == 0 ? new String[0] : text.toString().split(";");
        for (int i = 0; i < orders.length; i++) {
            try {
                carryOut(orders[i].charAt(0), Integer.parseInt(orders[i].substring(1)));
            } catch (IllegalStateException e) {
                now = before;
                return -1000 - i;
            }
        }
        save(before);
        return orders.length;
    }

    private void carryOut(char letter, int number) {
        int a = number / 10;
        int b = number % 10;
        switch (letter) {
            case 'a' -> now.ask(a, b);
            case 'g' -> now.grant(a, b);
            case 'r' -> now.refuse(a, b);
            case 's' -> now.stop(a, b);
            case 'i' -> now.turnOn(a, b, 0, 0);
            case 'o' -> now.turnOff(a, b);
            default -> now.deliver(number);
        }
    }

    int undo() {
        if (saved.isEmpty()) {
            throw new IllegalStateException();
        }
        now = saved.removeLast();
        return saved.size();
    }

    long digest() {
        List<Integer> values = new ArrayList<>(List.of(text.length()));
        for (int a = 0; a < 6; a++) {
            values.add(now.version[a]);
            for (int i = 0; i < 9; i++) {
                values.add(seat(a, i / 3, i % 3));
            }
            for (int b = 0; b < 6; b++) {
                if (b != a) {
                    values.addAll(List.of(entry(a, b), version(a, b), now.blocks[a][b] ? 1 : 0));
                    values.addAll(List.of(view(a, b, 0), view(a, b, 1), view(a, b, 2)));
                }
            }
        }
        values.addAll(List.of(now.sent, now.arrived, now.lost, underWay()));
        for (Message m : now.messages) {
            values.addAll(List.of(m.kind, m.from, m.to, m.seat, m.mood));
        }
        values.add(saved.size());
        long h = 3191;
        for (int v : values) {
            h = 31 * h + v;
        }
        return h;
    }
}
