import java.util.ArrayList;
import java.util.Collections;
import java.util.HashSet;
import java.util.List;
import java.util.Set;

/**
 * The document word for word, for comparing: every set is kept whole, and HIGH, LOCK, TIP, PUSH and the ledger are
 * found anew from their definitions each time, where the program keeps them up or keeps sets as bits.
 */
final class PlainModel {
    private static final class Transfer {
        int holders;
        int from;
        int to;
        int amount;
    }

    private static final class Block {
        int number;
        int view;
        Block parent;
        final Set<Integer> transfers = new HashSet<>();
        final Set<Integer> voters = new HashSet<>();

        List<Block> chain() {
            List<Block> chain = new ArrayList<>();
            for (Block b = this; b != null; b = b.parent) {
                chain.add(b);
            }
            Collections.reverse(chain);
            return chain;
        }
    }

    private static final class Message {
        int kind;
        int to;
        int from;
        Block block;
        int view;
    }

    private static final class Replica {
        int number;
        boolean corrupt;
        int view = 1;
        int timer;
        int patience = 2;
        int voted;
        int proposed;
        final List<Block> saw = new ArrayList<>();
        final List<Message> got = new ArrayList<>();
    }

    private final int f;
    private final int n;
    private final int k;
    private final List<Replica> replicas = new ArrayList<>();
    private final List<Transfer> transfers = new ArrayList<>();
    private final List<Block> blocks = new ArrayList<>();
    private final List<Message> messages = new ArrayList<>();
    private int lost;

    PlainModel(int faults, int corrupt, int turns) {
        f = faults == 2 ? 2 : 1;
        n = 3 * f + 1;
        k = turns < 4 ? 4 : turns > 9 ? 9 : turns;
        blocks.add(new Block());
        int liars = 0;
        for (int r = 0; r < n; r++) {
            Replica replica = new Replica();
            replica.number = r;
            replica.corrupt = bit(corrupt, r) && liars < f;
            replica.saw.add(blocks.get(0));
            replicas.add(replica);
            if (replica.corrupt) {
                liars++;
            }
        }
    }

    private static boolean bit(int set, int i) {
        return (set & 1 << i) != 0;
    }

    private static int number(Set<Integer> members) {
        int set = 0;
        for (int i : members) {
            set += 1 << i;
        }
        return set;
    }

    private static boolean within(int i, int least, int most) {
        return least <= i && i <= most;
    }

    private boolean correct(int r) {
        return within(r, 0, n - 1) && !replicas.get(r).corrupt;
    }

    private boolean corrupt(int r) {
        return within(r, 0, n - 1) && replicas.get(r).corrupt;
    }

    private int liars() {
        int count = 0;
        for (Replica replica : replicas) {
            count += replica.corrupt ? 1 : 0;
        }
        return count;
    }

    private boolean there(int b) {
        return within(b, 0, blocks.size() - 1);
    }

    private boolean certified(int b) {
        return there(b) && (b == 0 || blocks.get(b).voters.size() + liars() >= 2 * f + 1);
    }

    private int leader(int view) {
        int r = 0;
        int led = 0;
        for (int v = 1; v < view; v++) {
            led++;
            if (led == k) {
                led = 0;
                r = r == n - 1 ? 0 : r + 1;
            }
        }
        return r;
    }

    private static Block greater(Block a, Block b) {
        return b.view > a.view ? b : a;
    }

    private Block high(Replica x) {
        Block high = blocks.get(0);
        for (Block c : x.saw) {
            high = greater(high, c);
        }
        return high;
    }

    private Block lock(Replica x) {
        Block lock = blocks.get(0);
        for (Block c : x.saw) {
            if (c.parent != null) {
                lock = greater(lock, c.parent);
            }
        }
        return lock;
    }

    private Block tip(Replica x) {
        Block tip = blocks.get(0);
        for (Block c : x.saw) {
            Block b = c.parent;
            Block a = b == null ? null : b.parent;
            if (a != null && b.view == a.view + 1 && c.view == b.view + 1) {
                tip = greater(tip, a);
            }
        }
        return tip;
    }

    private int push(Replica x) {
        int push = 0;
        for (Message candidate : x.got) {
            if (candidate.kind == 2) {
                Set<Integer> from = new HashSet<>();
                for (Message m : x.got) {
                    if (m.kind == 2 && m.view >= candidate.view) {
                        from.add(m.from);
                    }
                }
                if (from.size() >= 2 * f + 1) {
                    push = Math.max(push, candidate.view);
                }
            }
        }
        return push;
    }

    private void enter(Replica x, int view) {
        x.view = view;
        x.timer = 0;
    }

    private void see(Replica x, Block c) {
        x.saw.add(c);
        if (c.view >= x.view) {
            enter(x, c.view + 1);
            x.patience = 2;
        }
    }

    private Block make(Block parent, int view) {
        Block b = new Block();
        b.number = blocks.size();
        b.view = view;
        b.parent = parent;
        blocks.add(b);
        return b;
    }

    private void send(int kind, int to, int from, Block block, int view) {
        if (messages.size() == 40) {
            lost++;
            return;
        }
        Message m = new Message();
        m.kind = kind;
        m.to = to;
        m.from = from;
        m.block = block;
        m.view = view;
        messages.add(m);
    }

    private int get(int place) {
        Message m = messages.remove(place);
        Replica x = replicas.get(m.to);
        if (x.corrupt) {
            return 0;
        }
        x.got.add(m);
        if (m.kind == 0) {
            getProposal(x, m.block);
        } else if (m.kind == 1) {
            getVote(x, m.block);
        } else {
            see(x, m.block);
            if (push(x) > x.view) {
                enter(x, push(x));
            }
        }
        return 1;
    }

    private void getProposal(Replica x, Block b) {
        see(x, b.parent);
        if (x.view < b.view) {
            enter(x, b.view);
        }
        boolean safe = b.chain().contains(lock(x)) || b.parent.view > lock(x).view;
        if (x.view == b.view && x.voted < b.view && safe) {
            x.voted = b.view;
            b.voters.add(x.number);
            send(1, leader(b.view + 1), x.number, b, 0);
        }
    }

    private void getVote(Replica x, Block b) {
        Set<Integer> from = new HashSet<>();
        for (Message m : x.got) {
            if (m.kind == 1 && m.block == b) {
                from.add(m.from);
            }
        }
        if (from.size() >= 2 * f + 1) {
            see(x, b);
        }
    }

    int submit(int holders, int from, int to, int amount) {
        boolean accounts = within(from, 0, 3) && within(to, 0, 3) && from != to;
        boolean room = transfers.size() < 24;
        if (!within(holders, 0, (1 << n) - 1) || !accounts || !within(amount, 1, 1000) || !room) {
            return -1;
        }
        Transfer t = new Transfer();
        t.holders = holders;
        t.from = from;
        t.to = to;
        t.amount = amount;
        transfers.add(t);
        return transfers.size() - 1;
    }

    int lead(int r) {
        if (!correct(r)) {
            return -1;
        }
        Replica x = replicas.get(r);
        int v = x.view;
        boolean ready = v == 1 || high(x).view == v - 1 || push(x) >= v;
        if (leader(v) != r || x.proposed == v || blocks.size() == 40 || !ready) {
            return -1;
        }
        Block high = high(x);
        Block b = make(high, v);
        for (int t = 0; t < transfers.size() && b.transfers.size() < 2; t++) {
            boolean met = false;
            for (Block a : high.chain()) {
                met |= a.transfers.contains(t);
            }
            if (bit(transfers.get(t).holders, r) && !met) {
                b.transfers.add(t);
            }
        }
        x.proposed = v;
        for (int to = 0; to < n; to++) {
            send(0, to, 0, b, 0);
        }
        return b.number;
    }

    int tick(int r) {
        if (!correct(r)) {
            return -1;
        }
        Replica x = replicas.get(r);
        x.timer++;
        if (x.timer == x.patience) {
            enter(x, x.view + 1);
            x.patience = x.patience == 32 ? 32 : x.patience * 2;
            send(2, leader(x.view), r, high(x), x.view);
        }
        return x.view;
    }

    int deliver(int i) {
        return within(i, 0, messages.size() - 1) ? get(i) : -1;
    }

    int flow(int m) {
        if (!within(m, 0, 40)) {
            return -1;
        }
        int times = 0;
        while (times < m && !messages.isEmpty()) {
            get(0);
            times++;
        }
        return times;
    }

    boolean drop(int i) {
        if (!within(i, 0, messages.size() - 1)) {
            return false;
        }
        messages.remove(i);
        return true;
    }

    int forge(int parent, int view, int set) {
        if (!certified(parent) || blocks.get(parent).view >= view || view > 9999) {
            return -1;
        }
        boolean known = within(set, 0, (1 << transfers.size()) - 1);
        if (!corrupt(leader(view)) || !known || blocks.size() == 40) {
            return -1;
        }
        Block b = make(blocks.get(parent), view);
        for (int t = 0; t < transfers.size(); t++) {
            if (bit(set, t)) {
                b.transfers.add(t);
            }
        }
        return b.number;
    }

    private boolean canSend(int b, int r) {
        return b != 0 && there(b) && within(r, 0, n - 1) && messages.size() < 40;
    }

    boolean offer(int b, int r) {
        if (liars() == 0 || !canSend(b, r)) {
            return false;
        }
        send(0, r, 0, blocks.get(b), 0);
        return true;
    }

    boolean vote(int s, int b, int r) {
        if (!corrupt(s) || !canSend(b, r)) {
            return false;
        }
        send(1, r, s, blocks.get(b), 0);
        return true;
    }

    boolean claim(int s, int view, int c, int r) {
        if (!corrupt(s) || view < 1 || !certified(c) || !within(r, 0, n - 1) || messages.size() == 40) {
            return false;
        }
        send(2, r, s, blocks.get(c), view);
        return true;
    }

    int waiting() {
        return messages.size();
    }

    int message(int i) {
        if (!within(i, 0, messages.size() - 1)) {
            return -1;
        }
        Message m = messages.get(i);
        return m.kind + 4 * m.to + 32 * m.from + 256 * m.block.number;
    }

    int block(int b) {
        if (!there(b)) {
            return -1;
        }
        Block x = blocks.get(b);
        return 64 * x.view + (x.parent == null ? 0 : x.parent.number);
    }

    int payload(int b) {
        return there(b) ? number(blocks.get(b).transfers) : -1;
    }

    int votes(int b) {
        return there(b) ? number(blocks.get(b).voters) : -1;
    }

    int state(int r, int what) {
        if (!correct(r) || !within(what, 0, 8)) {
            return -1;
        }
        Replica x = replicas.get(r);
        int[] state = {
            x.view, x.timer, x.patience, x.voted, x.proposed, high(x).number, lock(x).number, tip(x).number, push(x),
        };
        return state[what];
    }

    int committed(int r, int i) {
        if (!correct(r)) {
            return -1;
        }
        List<Block> chain = tip(replicas.get(r)).chain();
        return within(i, 0, chain.size() - 1) ? chain.get(i).number : -1;
    }

    /** The four balances, then 0, 1 or 2 for each transfer. */
    private int[] ledger(int r) {
        int[] ledger = new int[4 + transfers.size()];
        for (int account = 0; account < 4; account++) {
            ledger[account] = 100;
        }
        List<Integer> met = new ArrayList<>();
        for (Block b : tip(replicas.get(r)).chain()) {
            List<Integer> sorted = new ArrayList<>(b.transfers);
            Collections.sort(sorted);
            for (int t : sorted) {
                Transfer x = transfers.get(t);
                if (met.contains(t)) {
                    continue;
                }
                met.add(t);
                ledger[4 + t] = 2;
                if (x.amount <= ledger[x.from]) {
                    ledger[x.from] -= x.amount;
                    ledger[x.to] += x.amount;
                    ledger[4 + t] = 1;
                }
            }
        }
        return ledger;
    }

    int balance(int r, int account) {
        return correct(r) && within(account, 0, 3) ? ledger(r)[account] : -1;
    }

    int outcome(int r, int t) {
        return correct(r) && within(t, 0, transfers.size() - 1) ? ledger(r)[4 + t] : -1;
    }

    int lost() {
        return lost;
    }
}
