/**
 * Replicas that agree on one chain of blocks of transfers although some of them may lie.
 *
 * <p>Every row is made in the constructor and used again, so no call makes an object.
 */
public final class ThreeChainLedger {
    private static final int REFUSED = -1;

    private static final int ACCOUNTS = 4;
    private static final int FIRST_BALANCE = 100;
    private static final int MOST_AMOUNT = 1000;
    private static final int MOST_TRANSFERS = 24;
    private static final int MOST_TRANSFERS_LED = 2;
    private static final int MOST_BLOCKS = 40;
    private static final int MOST_WAITING = 40;
    private static final int MOST_FORGED_VIEW = 9999;
    private static final int LEAST_TURNS = 4;
    private static final int MOST_TURNS = 9;
    private static final int FIRST_PATIENCE = 2;
    private static final int MOST_PATIENCE = 32;

    private static final int PROPOSAL = 0;
    private static final int VOTE = 1;
    private static final int NEWVIEW = 2;

    private static final int UNMET = 0;
    private static final int DONE = 1;
    private static final int VOID = 2;

    private final int replicaCount;
    private final int quorum;
    private final int viewsInARow;
    private final int corruptSet;
    private final Replica[] replicas;
    private final Transfers transfers;
    private final Blocks blocks;
    private final Row row;
    private final Ledger ledger;

    public ThreeChainLedger(int faults, int corrupt, int turns) {
        int mostCorrupt = faults == 2 ? 2 : 1;
        replicaCount = 3 * mostCorrupt + 1;
        quorum = 2 * mostCorrupt + 1;
        viewsInARow = Math.min(Math.max(turns, LEAST_TURNS), MOST_TURNS);
        corruptSet = leastMembers(corrupt & ((1 << replicaCount) - 1), mostCorrupt);
        replicas = new Replica[replicaCount];
        for (int r = 0; r < replicaCount; r++) {
            replicas[r] = new Replica(replicaCount);
        }
        transfers = new Transfers();
        blocks = new Blocks();
        row = new Row();
        ledger = new Ledger();
    }

    public int submit(int holders, int from, int to, int amount) {
        boolean strangers = (holders >>> replicaCount) != 0;
        boolean badAccounts = !isAccount(from) || !isAccount(to) || from == to;
        boolean badAmount = amount < 1 || amount > MOST_AMOUNT;
        if (strangers || badAccounts || badAmount || transfers.isFull()) {
            return REFUSED;
        }
        int t = transfers.add(from, to, amount);
        for (int r = 0; r < replicaCount; r++) {
            if (hasMember(holders, r)) {
                replicas[r].held |= 1 << t;
            }
        }
        return t;
    }

    public int lead(int r) {
        if (!isCorrect(r) || !mayPropose(r) || blocks.isFull()) {
            return REFUSED;
        }
        Replica leader = replicas[r];
        int fresh = leader.held & ~blocks.chainTransfers[leader.high];
        int b = blocks.add(leader.high, leader.view, leastMembers(fresh, MOST_TRANSFERS_LED));
        leader.proposed = leader.view;
        for (int to = 0; to < replicaCount; to++) {
            row.send(PROPOSAL, to, 0, b, 0);
        }
        return b;
    }

    public int tick(int r) {
        if (!isCorrect(r)) {
            return REFUSED;
        }
        Replica replica = replicas[r];
        replica.timer++;
        if (replica.timer == replica.patience) {
            replica.enter(replica.view + 1);
            replica.patience = Math.min(2 * replica.patience, MOST_PATIENCE);
            row.send(NEWVIEW, leaderOf(replica.view), r, replica.high, replica.view);
        }
        return replica.view;
    }

    public int deliver(int i) {
        if (!row.hasPlace(i)) {
            return REFUSED;
        }
        return handOver(i) ? 1 : 0;
    }

    public int flow(int m) {
        if (m < 0 || m > MOST_WAITING) {
            return REFUSED;
        }
        int delivered = 0;
        while (delivered < m && row.hasPlace(0)) {
            handOver(0);
            delivered++;
        }
        return delivered;
    }

    public boolean drop(int i) {
        if (!row.hasPlace(i)) {
            return false;
        }
        row.remove(i);
        return true;
    }

    public int forge(int parent, int view, int set) {
        if (!hasCertificate(parent) || view <= blocks.views[parent] || view > MOST_FORGED_VIEW) {
            return REFUSED;
        }
        boolean strangers = (set >>> transfers.count) != 0;
        if (!isCorrupt(leaderOf(view)) || strangers || blocks.isFull()) {
            return REFUSED;
        }
        return blocks.add(parent, view, set);
    }

    public boolean offer(int b, int r) {
        if (corruptSet == 0 || !maySend(b, r)) {
            return false;
        }
        row.send(PROPOSAL, r, 0, b, 0);
        return true;
    }

    public boolean vote(int s, int b, int r) {
        if (!isCorrupt(s) || !maySend(b, r)) {
            return false;
        }
        row.send(VOTE, r, s, b, 0);
        return true;
    }

    public boolean claim(int s, int view, int c, int r) {
        if (!isCorrupt(s) || view < 1 || !hasCertificate(c) || !isReplica(r) || row.isFull()) {
            return false;
        }
        row.send(NEWVIEW, r, s, c, view);
        return true;
    }

    public int waiting() {
        return row.size;
    }

    public int message(int i) {
        return row.hasPlace(i) ? row.codes[i] : REFUSED;
    }

    public int block(int b) {
        return blocks.has(b) ? 64 * blocks.views[b] + blocks.parents[b] : REFUSED;
    }

    public int payload(int b) {
        return blocks.has(b) ? blocks.payloads[b] : REFUSED;
    }

    public int votes(int b) {
        return blocks.has(b) ? blocks.voters[b] : REFUSED;
    }

    public int state(int r, int what) {
        if (!isCorrect(r)) {
            return REFUSED;
        }
        Replica replica = replicas[r];
        switch (what) {
            case 0:
                return replica.view;
            case 1:
                return replica.timer;
            case 2:
                return replica.patience;
            case 3:
                return replica.voted;
            case 4:
                return replica.proposed;
            case 5:
                return replica.high;
            case 6:
                return replica.lock;
            case 7:
                return replica.tip;
            case 8:
                return replica.push(quorum);
            default:
                return REFUSED;
        }
    }

    public int committed(int r, int i) {
        if (!isCorrect(r) || i < 0) {
            return REFUSED;
        }
        return blocks.atPlace(replicas[r].tip, i);
    }

    public int balance(int r, int account) {
        if (!isCorrect(r) || !isAccount(account)) {
            return REFUSED;
        }
        ledger.replay(replicas[r].tip, blocks, transfers);
        return ledger.balances[account];
    }

    public int outcome(int r, int t) {
        if (!isCorrect(r) || !transfers.has(t)) {
            return REFUSED;
        }
        ledger.replay(replicas[r].tip, blocks, transfers);
        return ledger.outcomes[t];
    }

    public int lost() {
        return row.lostCount;
    }

    private static boolean hasMember(int set, int i) {
        return ((set >>> i) & 1) != 0;
    }

    private static int leastMembers(int set, int most) {
        int rest = set;
        for (int i = 0; i < most; i++) {
            rest &= rest - 1;
        }
        return set & ~rest;
    }

    private static boolean isAccount(int account) {
        return account >= 0 && account < ACCOUNTS;
    }

    private boolean isReplica(int r) {
        return r >= 0 && r < replicaCount;
    }

    private boolean isCorrupt(int r) {
        return isReplica(r) && hasMember(corruptSet, r);
    }

    private boolean isCorrect(int r) {
        return isReplica(r) && !hasMember(corruptSet, r);
    }

    private int leaderOf(int view) {
        // floorMod, since far beyond the 512th call a view could wrap around and must not become a bad index.
        return Math.floorMod((view - 1) / viewsInARow, replicaCount);
    }

    private boolean mayPropose(int r) {
        Replica replica = replicas[r];
        int view = replica.view;
        if (leaderOf(view) != r || replica.proposed == view) {
            return false;
        }
        return view == 1 || blocks.views[replica.high] == view - 1 || replica.push(quorum) >= view;
    }

    private boolean maySend(int b, int r) {
        return b != 0 && blocks.has(b) && isReplica(r) && !row.isFull();
    }

    private boolean hasCertificate(int b) {
        if (!blocks.has(b)) {
            return false;
        }
        return b == 0 || Integer.bitCount(blocks.voters[b] | corruptSet) >= quorum;
    }

    /** Whether the replica that got the message is correct. */
    private boolean handOver(int i) {
        // Read before it leaves: what the replica sends may take the place that becomes free.
        int code = row.codes[i];
        int view = row.views[i];
        row.remove(i);
        int to = Row.receiver(code);
        if (!isCorrect(to)) {
            return false;
        }
        int b = Row.subject(code);
        switch (Row.kind(code)) {
            case PROPOSAL:
                getProposal(to, b);
                break;
            case VOTE:
                getVote(to, Row.sender(code), b);
                break;
            default:
                getNewView(to, Row.sender(code), view, b);
                break;
        }
        return true;
    }

    private void getProposal(int r, int b) {
        Replica replica = replicas[r];
        int view = blocks.views[b];
        replica.see(blocks.parents[b], blocks);
        if (replica.view < view) {
            replica.enter(view);
        }
        if (replica.view == view && replica.voted < view && isSafe(replica.lock, b)) {
            replica.voted = view;
            blocks.voters[b] |= 1 << r;
            row.send(VOTE, leaderOf(view + 1), r, b, 0);
        }
    }

    private boolean isSafe(int lock, int b) {
        return blocks.inChain(lock, b) || blocks.views[blocks.parents[b]] > blocks.views[lock];
    }

    private void getVote(int r, int from, int b) {
        Replica replica = replicas[r];
        replica.votesGot[b] |= 1 << from;
        if (Integer.bitCount(replica.votesGot[b]) >= quorum) {
            replica.see(b, blocks);
        }
    }

    private void getNewView(int r, int from, int view, int c) {
        Replica replica = replicas[r];
        replica.newViews[from] = Math.max(replica.newViews[from], view);
        replica.see(c, blocks);
        int push = replica.push(quorum);
        if (push > replica.view) {
            replica.enter(push);
        }
    }

    private static final class Replica {
        int view = 1;
        int timer;
        int patience = FIRST_PATIENCE;
        int voted;
        int proposed;
        int held;
        // Certificates are only ever added to those seen, so the three blocks are kept up instead of the set.
        int high;
        int lock;
        int tip;
        final int[] votesGot = new int[MOST_BLOCKS];
        final int[] newViews;

        Replica(int replicaCount) {
            newViews = new int[replicaCount];
        }

        void enter(int newView) {
            view = newView;
            timer = 0;
        }

        void see(int c, Blocks blocks) {
            int parent = blocks.parents[c];
            high = blocks.later(high, c);
            lock = blocks.later(lock, parent);
            if (blocks.followsAtOnce(c) && blocks.followsAtOnce(parent)) {
                tip = blocks.later(tip, blocks.parents[parent]);
            }
            if (blocks.views[c] >= view) {
                enter(blocks.views[c] + 1);
                patience = FIRST_PATIENCE;
            }
        }

        int push(int quorum) {
            int greatest = 0;
            for (int i = 0; i < newViews.length; i++) {
                if (newViews[i] > greatest && countFrom(newViews[i]) >= quorum) {
                    greatest = newViews[i];
                }
            }
            return greatest;
        }

        private int countFrom(int least) {
            int count = 0;
            for (int i = 0; i < newViews.length; i++) {
                if (newViews[i] >= least) {
                    count++;
                }
            }
            return count;
        }
    }

    private static final class Transfers {
        final int[] payers = new int[MOST_TRANSFERS];
        final int[] payees = new int[MOST_TRANSFERS];
        final int[] amounts = new int[MOST_TRANSFERS];
        int count;

        boolean has(int t) {
            return t >= 0 && t < count;
        }

        boolean isFull() {
            return count >= MOST_TRANSFERS;
        }

        /** Only for a row that is not full. */
        int add(int from, int to, int amount) {
            payers[count] = from;
            payees[count] = to;
            amounts[count] = amount;
            count++;
            return count - 1;
        }
    }

    private static final class Blocks {
        final int[] views = new int[MOST_BLOCKS];
        // Block 0 stands as its own parent here, so that every chain can be walked without a test for its end.
        final int[] parents = new int[MOST_BLOCKS];
        final int[] payloads = new int[MOST_BLOCKS];
        final int[] voters = new int[MOST_BLOCKS];
        final int[] chainTransfers = new int[MOST_BLOCKS];
        private final long[] chains = new long[MOST_BLOCKS];
        int count = 1;

        Blocks() {
            chains[0] = 1L;
        }

        boolean has(int b) {
            return b >= 0 && b < count;
        }

        boolean isFull() {
            return count >= MOST_BLOCKS;
        }

        /** Only for a row that is not full. */
        int add(int parent, int view, int set) {
            views[count] = view;
            parents[count] = parent;
            payloads[count] = set;
            chainTransfers[count] = chainTransfers[parent] | set;
            chains[count] = chains[parent] | (1L << count);
            count++;
            return count - 1;
        }

        boolean inChain(int a, int b) {
            return ((chains[b] >>> a) & 1L) != 0;
        }

        int later(int a, int b) {
            return views[b] > views[a] ? b : a;
        }

        boolean followsAtOnce(int b) {
            return views[b] == views[parents[b]] + 1;
        }

        int atPlace(int b, int place) {
            int passed = 0;
            // A parent has a smaller number than its child, so rising numbers go up the chain.
            for (int a = 0; a <= b; a++) {
                if (inChain(a, b)) {
                    if (passed == place) {
                        return a;
                    }
                    passed++;
                }
            }
            return REFUSED;
        }
    }

    private static final class Row {
        // A message is kept as the number that message(i) answers: that tells all of it but a NEWVIEW's view.
        final int[] codes = new int[MOST_WAITING];
        final int[] views = new int[MOST_WAITING];
        int size;
        int lostCount;

        static int kind(int code) {
            return code & 3;
        }

        static int receiver(int code) {
            return (code >> 2) & 7;
        }

        static int sender(int code) {
            return (code >> 5) & 7;
        }

        static int subject(int code) {
            return code >> 8;
        }

        boolean hasPlace(int i) {
            return i >= 0 && i < size;
        }

        boolean isFull() {
            return size >= MOST_WAITING;
        }

        void send(int kind, int to, int from, int b, int view) {
            if (isFull()) {
                lostCount++;
                return;
            }
            codes[size] = kind + 4 * to + 32 * from + 256 * b;
            views[size] = view;
            size++;
        }

        /** Only for a place that is there. */
        void remove(int i) {
            size--;
            System.arraycopy(codes, i + 1, codes, i, size - i);
            System.arraycopy(views, i + 1, views, i, size - i);
        }
    }

    private static final class Ledger {
        final int[] balances = new int[ACCOUNTS];
        final int[] outcomes = new int[MOST_TRANSFERS];

        void replay(int tip, Blocks blocks, Transfers transfers) {
            for (int account = 0; account < ACCOUNTS; account++) {
                balances[account] = FIRST_BALANCE;
            }
            for (int t = 0; t < MOST_TRANSFERS; t++) {
                outcomes[t] = UNMET;
            }
            // A parent has a smaller number than its child, so rising numbers go up the chain.
            for (int b = 0; b <= tip; b++) {
                if (blocks.inChain(b, tip)) {
                    settle(blocks.payloads[b], transfers);
                }
            }
        }

        private void settle(int set, Transfers transfers) {
            for (int t = 0; t < transfers.count; t++) {
                if (hasMember(set, t) && outcomes[t] == UNMET) {
                    outcomes[t] = pay(transfers.payers[t], transfers.payees[t], transfers.amounts[t]) ? DONE : VOID;
                }
            }
        }

        private boolean pay(int from, int to, int amount) {
            if (balances[from] < amount) {
                return false;
            }
            balances[from] -= amount;
            balances[to] += amount;
            return true;
        }
    }
}
