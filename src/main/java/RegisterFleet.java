import java.util.ArrayList;
import java.util.Arrays;

/**
 * Registers that outlive their servers: clients read and write them by two rounds of majorities
 * while the set of servers is changed under them by agreement.
 */
public final class RegisterFleet {
    public static final int NONE = -1;

    private static final int NO_SUCH = NONE - 1;

    private static final int LEAST_SERVERS = 3;
    private static final int MOST_SERVERS = 7;
    private static final int CLIENTS = 4;
    private static final int REGISTERS = 3;
    private static final int NUMBERS = 6;
    private static final int VOTES = NUMBERS - 1;
    private static final int MOST_OPERATIONS = 60;
    private static final int MOST_DELIVERIES = 1000;
    private static final int LAST_BAD_ANSWER = 9;

    private static final int NOTHING = 0;
    private static final int GONE = -1;

    private static final int READ = 0;
    private static final int WRITE = 1;
    private static final int CHANGE = 2;
    private static final int MOVE = 3;

    private static final int ASKS = 0;
    private static final int TELLS = 1;
    private static final int PREPARES = 2;
    private static final int OFFERS = 3;
    private static final int SURVEYS = 4;
    private static final int HANDS = 5;
    private static final int NEWS = 6;
    private static final int ANSWER = 10;

    private static final int MAP_IN_MESSAGE = 8;

    private final Server[] servers = new Server[MOST_SERVERS];
    private final Client[] clients = new Client[CLIENTS];
    private final Bag mail = new Bag();
    private final Log log = new Log();
    private final RowSearch rowSearch = new RowSearch();
    private int serverCount;
    private int deliveredCount;

    public RegisterFleet() {
        for (int s = 0; s < servers.length; s++) {
            servers[s] = new Server();
        }
        for (int c = 0; c < clients.length; c++) {
            clients[c] = new Client(c);
        }
        restart(LEAST_SERVERS, (1 << LEAST_SERVERS) - 1);
    }

    public boolean begin(int servers, int set) {
        if (servers < LEAST_SERVERS || servers > MOST_SERVERS || !isSetAmong(servers, set)) {
            return false;
        }
        restart(servers, set);
        return true;
    }

    public int read(int c, int r) {
        return canBegin(c) && isRegister(r) ? start(clients[c], READ, r, 0) : NONE;
    }

    public int write(int c, int r, int v) {
        return canBegin(c) && isRegister(r) ? start(clients[c], WRITE, r, v) : NONE;
    }

    public int change(int c, int set) {
        if (!canBegin(c) || !isSetAmong(serverCount, set)) {
            return NONE;
        }
        Client who = clients[c];
        int k = who.map.greatestKnown();
        if (k >= VOTES) {
            return NONE;
        }
        who.aimAt(k, who.map.at(k), set);
        return start(who, CHANGE, set, 0);
    }

    public int move(int c) {
        if (!canBegin(c)) {
            return NONE;
        }
        Client who = clients[c];
        int k = who.map.leastActive();
        if (k == NONE || !isSet(who.map.at(k + 1))) {
            return NONE;
        }
        who.aimAt(k, who.map.at(k), who.map.at(k + 1));
        return start(who, MOVE, k, 0);
    }

    public int bag() {
        return mail.size();
    }

    public int message(int i, int what) {
        if (!mail.has(i)) {
            return NO_SUCH;
        }
        Message asked = mail.look(i);
        switch (what) {
            case 0: return asked.kind;
            case 1: return asked.server;
            case 2: return asked.client;
            case 3: return asked.round;
            case 4: return asked.subject;
            case 5: return asked.marks[0];
            case 6: return asked.contents[0];
            case 7: return asked.bad ? 1 : 0;
            default: return mapAnswer(asked.map, what - MAP_IN_MESSAGE);
        }
    }

    public int deliver(int i) {
        if (!mail.has(i)) {
            return NONE;
        }
        return handOver(i) ? 1 : 0;
    }

    public boolean lose(int i) {
        if (!mail.has(i)) {
            return false;
        }
        mail.reuse(mail.take(i));
        return true;
    }

    public int run(int seed, int n) {
        if (n < 0 || n > MOST_DELIVERIES) {
            return NONE;
        }
        int drawn = seed;
        int done = 0;
        while (done < n && mail.size() > 0) {
            drawn = drawn * 1103515245 + 12345;
            handOver((drawn >>> 16) % mail.size());
            done++;
        }
        return done;
    }

    public boolean stop(boolean client, int s) {
        if (client) {
            if (!isClient(s) || clients[s].stopped) {
                return false;
            }
            clients[s].stopped = true;
            return true;
        }
        if (!isServer(s) || servers[s].stopped) {
            return false;
        }
        servers[s].stopped = true;
        return true;
    }

    public int map(boolean client, int s, int k) {
        if (client) {
            return isClient(s) ? mapAnswer(clients[s].map, k) : NO_SUCH;
        }
        return isServer(s) ? mapAnswer(servers[s].map, k) : NO_SUCH;
    }

    public int cell(int s, int r, int what) {
        if (!isServer(s) || !isRegister(r)) {
            return 0;
        }
        switch (what) {
            case 0: return servers[s].tags[r];
            case 1: return servers[s].values[r];
            default: return 0;
        }
    }

    public int vote(int s, int k, int what) {
        if (!isServer(s) || k < 0 || k >= VOTES) {
            return 0;
        }
        switch (what) {
            case 0: return servers[s].promised[k];
            case 1: return servers[s].accepted[k];
            case 2: return servers[s].acceptedSets[k];
            default: return 0;
        }
    }

    public int client(int c, int what) {
        if (!isClient(c)) {
            return NO_SUCH;
        }
        Client who = clients[c];
        boolean idle = who.task == null;
        switch (what) {
            case 0: return idle ? NONE : who.task.number;
            case 1: return who.round;
            case 2: return idle ? 0 : who.asked;
            case 3: return idle ? 0 : who.answered;
            case 4: return idle ? 0 : who.phase;
            case 5: return idle ? 0 : who.shownMark(who.task);
            case 6: return who.stopped ? 1 : 0;
            default: return NO_SUCH;
        }
    }

    public int operation(int n, int what) {
        if (!log.has(n)) {
            return NO_SUCH;
        }
        Operation asked = log.operations[n];
        switch (what) {
            case 0: return asked.kind;
            case 1: return asked.client;
            case 2: return asked.subject;
            case 3: return asked.value;
            case 4: return asked.hasEnded() ? 1 : 0;
            case 5: return asked.result;
            case 6: return asked.beginMoment;
            case 7: return asked.endMoment;
            case 8: return asked.badAnswers;
            default: return NO_SUCH;
        }
    }

    public int count(int what) {
        switch (what) {
            case 0: return log.begun;
            case 1: return log.ended;
            case 2: return log.moments;
            case 3: return mail.everLain;
            case 4: return deliveredCount;
            default: return NONE;
        }
    }

    public int atomic(int r) {
        if (!isRegister(r) || !rowSearch.gather(log, r)) {
            return NONE;
        }
        return rowSearch.findsRow() ? 1 : 0;
    }

    private static boolean isClient(int c) {
        return c >= 0 && c < CLIENTS;
    }

    private static boolean isRegister(int r) {
        return r >= 0 && r < REGISTERS;
    }

    private boolean isServer(int s) {
        return s >= 0 && s < serverCount;
    }

    private static boolean isSetAmong(int servers, int set) {
        return isSet(set) && set < 1 << servers;
    }

    private static boolean isSet(int entry) {
        return entry > NOTHING;
    }

    private static boolean isMajority(int set, int answered) {
        return 2 * Integer.bitCount(set & answered) > Integer.bitCount(set);
    }

    private static boolean isIn(int set, int server) {
        return (set >> server & 1) != 0;
    }

    /** TAGS and BALLOTS carry their CLIENT, so no two CLIENTS ever make the same one. */
    private static int markBeyond(int mark, int client) {
        return CLIENTS * (mark / CLIENTS + 1) + client;
    }

    private static int mapAnswer(SetMap asked, int k) {
        return k >= 0 && k < NUMBERS ? asked.at(k) : NO_SUCH;
    }

    private void restart(int count, int firstSet) {
        serverCount = count;
        deliveredCount = 0;
        for (Server each : servers) {
            each.restart(firstSet);
        }
        for (Client each : clients) {
            each.restart(firstSet);
        }
        mail.restart();
        log.restart();
    }

    private boolean canBegin(int c) {
        return isClient(c) && !clients[c].stopped && clients[c].task == null && log.hasRoom();
    }

    private int start(Client who, int kind, int subject, int value) {
        Operation task = log.open(kind, who.index, subject, value);
        who.takeUp(task);
        askMissing(who, task);
        return task.number;
    }

    private boolean handOver(int i) {
        Message taken = mail.take(i);
        boolean got;
        if (taken.kind >= ANSWER) {
            Client receiver = clients[taken.client];
            got = !receiver.stopped;
            if (got) {
                hear(receiver, taken);
            }
        } else {
            Server receiver = servers[taken.server];
            got = !receiver.stopped;
            if (got) {
                serve(receiver, taken);
            }
        }
        if (got) {
            deliveredCount++;
        }
        mail.reuse(taken);
        return got;
    }

    private void serve(Server receiver, Message question) {
        receiver.map.join(question.map);
        if (question.kind == NEWS) {
            return;
        }
        Message answer = mail.post(question.kind + ANSWER, question.server, question.client, receiver.map);
        answer.round = question.round;
        answer.subject = question.subject;
        receiver.obey(question, answer);
    }

    private void hear(Client receiver, Message answer) {
        receiver.map.join(answer.map);
        Operation task = receiver.task;
        if (task == null) {
            return;
        }
        boolean counts = answer.round == receiver.round;
        if (counts && !answer.bad) {
            receiver.note(answer);
        }
        if (receiver.isOvertaken(task)) {
            finish(receiver, task, receiver.overtakenResult(task));
            return;
        }
        if (counts && answer.bad && !tryAgain(receiver, task, answer.marks[0])) {
            finish(receiver, task, 0);
            return;
        }
        askMissing(receiver, task);
        if (!receiver.roundIsFull(task)) {
            return;
        }
        if (receiver.phase == 1) {
            receiver.openSecondRound(task);
            askMissing(receiver, task);
        } else {
            complete(receiver, task);
        }
    }

    /** False if there were too many bad answers to begin anew. */
    private static boolean tryAgain(Client who, Operation task, int promised) {
        task.badAnswers++;
        if (task.badAnswers >= LAST_BAD_ANSWER) {
            return false;
        }
        who.ballot = markBeyond(promised, who.index);
        who.openFirstRound();
        return true;
    }

    private void askMissing(Client who, Operation task) {
        int missing = who.serversToAsk(task) & ~who.asked;
        for (int s = 0; s < serverCount; s++) {
            if (isIn(missing, s)) {
                Message question = mail.post(who.questionKind(task), s, who.index, who.map);
                who.fillQuestion(task, question);
            }
        }
        who.asked |= missing;
    }

    private void complete(Client who, Operation task) {
        switch (task.kind) {
            case CHANGE:
                who.map.put(who.number + 1, who.contents[0]);
                sendNews(who, who.oldSet | who.contents[0]);
                finish(who, task, who.contents[0] == task.subject ? 1 : 0);
                break;
            case MOVE:
                who.map.put(who.number, GONE);
                sendNews(who, who.oldSet | who.newSet);
                finish(who, task, who.number);
                break;
            default:
                finish(who, task, who.contents[0]);
                break;
        }
    }

    private void sendNews(Client who, int receivers) {
        for (int s = 0; s < serverCount; s++) {
            if (isIn(receivers, s)) {
                mail.post(NEWS, s, who.index, who.map);
            }
        }
    }

    private void finish(Client who, Operation task, int result) {
        log.close(task, result);
        who.task = null;
    }

    /** What somebody knows of the numbers 0 .. 5: nothing, a SET, or GONE. */
    private static final class SetMap {
        private final int[] entries = new int[NUMBERS];

        void restart(int firstSet) {
            Arrays.fill(entries, NOTHING);
            entries[0] = firstSet;
        }

        int at(int k) {
            return k >= 0 && k < entries.length ? entries[k] : NOTHING;
        }

        void put(int k, int entry) {
            if (k >= 0 && k < entries.length) {
                entries[k] = entry;
            }
        }

        void copyFrom(SetMap other) {
            System.arraycopy(other.entries, 0, entries, 0, NUMBERS);
        }

        void join(SetMap other) {
            for (int k = 0; k < NUMBERS; k++) {
                if (other.entries[k] == GONE || entries[k] == NOTHING) {
                    entries[k] = other.entries[k];
                }
            }
        }

        int greatestKnown() {
            int greatest = 0;
            for (int k = 0; k < NUMBERS; k++) {
                if (entries[k] != NOTHING) {
                    greatest = k;
                }
            }
            return greatest;
        }

        int leastActive() {
            for (int k = 0; k < NUMBERS; k++) {
                if (isSet(entries[k])) {
                    return k;
                }
            }
            return NONE;
        }

        int activeServers() {
            int all = 0;
            for (int entry : entries) {
                if (isSet(entry)) {
                    all |= entry;
                }
            }
            return all;
        }

        boolean eachActiveHasMajority(int answered) {
            for (int entry : entries) {
                if (isSet(entry) && !isMajority(entry, answered)) {
                    return false;
                }
            }
            return true;
        }
    }

    /** A TAG or BALLOT is a mark; what it stands for, a value or a SET, is its content. */
    private static final class Message {
        final SetMap map;
        final int[] marks = new int[REGISTERS];
        final int[] contents = new int[REGISTERS];
        int kind;
        int server;
        int client;
        int round;
        int subject;
        boolean bad;

        Message(SetMap map) {
            this.map = map;
        }

        void clear() {
            Arrays.fill(marks, 0);
            Arrays.fill(contents, 0);
            round = 0;
            subject = 0;
            bad = false;
        }

        void set(int place, int mark, int content) {
            if (place >= 0 && place < REGISTERS) {
                marks[place] = mark;
                contents[place] = content;
            }
        }
    }

    /** Messages that left the bag are kept and used again, so that a long run stays small. */
    private static final class Bag {
        private final ArrayList<Message> lying = new ArrayList<>();
        private final ArrayList<Message> spare = new ArrayList<>();
        int everLain;

        void restart() {
            for (int i = 0; i < lying.size(); i++) {
                spare.add(lying.get(i));
            }
            lying.clear();
            everLain = 0;
        }

        int size() {
            return lying.size();
        }

        boolean has(int i) {
            return i >= 0 && i < lying.size();
        }

        Message look(int i) {
            return lying.get(i);
        }

        Message take(int i) {
            return lying.remove(i);
        }

        void reuse(Message done) {
            spare.add(done);
        }

        Message post(int kind, int server, int client, SetMap senders) {
            Message posted = spare.isEmpty() ? new Message(new SetMap()) : spare.remove(spare.size() - 1);
            posted.clear();
            posted.kind = kind;
            posted.server = server;
            posted.client = client;
            posted.map.copyFrom(senders);
            lying.add(posted);
            everLain++;
            return posted;
        }
    }

    private static final class Server {
        final SetMap map = new SetMap();
        final int[] tags = new int[REGISTERS];
        final int[] values = new int[REGISTERS];
        final int[] promised = new int[VOTES];
        final int[] accepted = new int[VOTES];
        final int[] acceptedSets = new int[VOTES];
        boolean stopped;

        void restart(int firstSet) {
            map.restart(firstSet);
            Arrays.fill(tags, 0);
            Arrays.fill(values, 0);
            Arrays.fill(promised, 0);
            Arrays.fill(accepted, 0);
            Arrays.fill(acceptedSets, 0);
            stopped = false;
        }

        void obey(Message question, Message answer) {
            switch (question.kind) {
                case ASKS:
                    if (isRegister(question.subject)) {
                        answer.set(0, tags[question.subject], values[question.subject]);
                    }
                    break;
                case TELLS:
                    learn(question.subject, question.marks[0], question.contents[0]);
                    break;
                case PREPARES:
                case OFFERS:
                    castVote(question, answer);
                    break;
                case SURVEYS:
                    for (int r = 0; r < REGISTERS; r++) {
                        answer.set(r, tags[r], values[r]);
                    }
                    break;
                case HANDS:
                    for (int r = 0; r < REGISTERS; r++) {
                        learn(r, question.marks[r], question.contents[r]);
                    }
                    break;
                default:
                    break;
            }
        }

        private void learn(int r, int tag, int value) {
            if (isRegister(r) && tags[r] < tag) {
                tags[r] = tag;
                values[r] = value;
            }
        }

        private void castVote(Message question, Message answer) {
            int k = question.subject;
            int ballot = question.marks[0];
            if (k < 0 || k >= VOTES) {
                return;
            }
            if (question.kind == PREPARES && promised[k] < ballot) {
                promised[k] = ballot;
                answer.set(0, accepted[k], acceptedSets[k]);
            } else if (question.kind == OFFERS && promised[k] <= ballot) {
                promised[k] = ballot;
                accepted[k] = ballot;
                acceptedSets[k] = question.contents[0];
            } else {
                answer.set(0, promised[k], 0);
                answer.bad = true;
            }
        }
    }

    /**
     * What a CLIENT knows, and how far it is with its OPERATION (null without one). marks and
     * contents are the greatest that ROUND 1 was answered, later what ROUND 2 sends.
     */
    private static final class Client {
        final int index;
        final SetMap map = new SetMap();
        final int[] marks = new int[REGISTERS];
        final int[] contents = new int[REGISTERS];
        Operation task;
        boolean stopped;
        int round;
        int phase;
        int asked;
        int answered;
        int ballot;
        int number;
        int oldSet;
        int newSet;

        Client(int index) {
            this.index = index;
        }

        void restart(int firstSet) {
            map.restart(firstSet);
            task = null;
            stopped = false;
            round = 0;
        }

        /** SETS are kept as they were at the begin: the MAP may change before they are needed. */
        void aimAt(int k, int from, int to) {
            number = k;
            oldSet = from;
            newSet = to;
        }

        void takeUp(Operation begun) {
            task = begun;
            ballot = markBeyond(0, index);
            openFirstRound();
        }

        void openFirstRound() {
            Arrays.fill(marks, 0);
            Arrays.fill(contents, 0);
            openRound(1);
        }

        void openSecondRound(Operation current) {
            if (current.kind == WRITE) {
                marks[0] = markBeyond(marks[0], index);
                contents[0] = current.value;
            } else if (current.kind == CHANGE && marks[0] == 0) {
                contents[0] = newSet;
            }
            openRound(2);
        }

        private void openRound(int next) {
            phase = next;
            round++;
            asked = 0;
            answered = 0;
        }

        void note(Message answer) {
            answered |= 1 << answer.server;
            if (phase != 1) {
                return;
            }
            for (int i = 0; i < REGISTERS; i++) {
                if (answer.marks[i] > marks[i]) {
                    marks[i] = answer.marks[i];
                    contents[i] = answer.contents[i];
                }
            }
        }

        boolean isOvertaken(Operation current) {
            switch (current.kind) {
                case CHANGE: return map.at(number) == GONE || map.at(number + 1) != NOTHING;
                case MOVE: return map.at(number) == GONE;
                default: return false;
            }
        }

        int overtakenResult(Operation current) {
            if (current.kind == MOVE) {
                return number;
            }
            return map.at(number + 1) == current.subject ? 1 : 0;
        }

        int serversToAsk(Operation current) {
            switch (current.kind) {
                case CHANGE: return oldSet;
                case MOVE: return phase == 1 ? oldSet : newSet;
                default: return map.activeServers();
            }
        }

        boolean roundIsFull(Operation current) {
            if (current.kind == READ || current.kind == WRITE) {
                return map.eachActiveHasMajority(answered);
            }
            return isMajority(serversToAsk(current), answered);
        }

        int questionKind(Operation current) {
            switch (current.kind) {
                case CHANGE: return phase == 1 ? PREPARES : OFFERS;
                case MOVE: return phase == 1 ? SURVEYS : HANDS;
                default: return phase == 1 ? ASKS : TELLS;
            }
        }

        void fillQuestion(Operation current, Message question) {
            question.round = round;
            question.subject = current.kind == CHANGE ? number : current.subject;
            switch (question.kind) {
                case TELLS:
                    question.set(0, marks[0], contents[0]);
                    break;
                case PREPARES:
                    question.set(0, ballot, 0);
                    break;
                case OFFERS:
                    question.set(0, ballot, contents[0]);
                    break;
                case HANDS:
                    for (int r = 0; r < REGISTERS; r++) {
                        question.set(r, marks[r], contents[r]);
                    }
                    break;
                default:
                    break;
            }
        }

        int shownMark(Operation current) {
            switch (current.kind) {
                case CHANGE: return ballot;
                case MOVE: return 0;
                default: return phase == 2 ? marks[0] : 0;
            }
        }
    }

    private static final class Operation {
        final int number;
        int kind;
        int client;
        int subject;
        int value;
        int result;
        int beginMoment;
        int endMoment;
        int badAnswers;

        Operation(int number) {
            this.number = number;
        }

        boolean hasEnded() {
            return endMoment != 0;
        }
    }

    /** All OPERATIONS in the order of their begins, and the MOMENTS of TIME. */
    private static final class Log {
        final Operation[] operations = new Operation[MOST_OPERATIONS];
        int begun;
        int ended;
        int moments;

        void restart() {
            begun = 0;
            ended = 0;
            moments = 0;
        }

        boolean hasRoom() {
            return begun < MOST_OPERATIONS;
        }

        boolean has(int n) {
            return n >= 0 && n < begun;
        }

        Operation open(int kind, int client, int subject, int value) {
            if (operations[begun] == null) {
                operations[begun] = new Operation(begun);
            }
            Operation opened = operations[begun];
            begun++;
            moments++;
            opened.kind = kind;
            opened.client = client;
            opened.subject = subject;
            opened.value = value;
            opened.result = 0;
            opened.beginMoment = moments;
            opened.endMoment = 0;
            opened.badAnswers = 0;
            return opened;
        }

        void close(Operation closed, int result) {
            ended++;
            moments++;
            closed.result = result;
            closed.endMoment = moments;
        }
    }

    /**
     * Searches the row that makes a REGISTER ATOMIC. A CLIENT's own OPERATIONS never overlap, so
     * which ones stand in the row already is told by how many of each CLIENT's do: a spot. For
     * each spot only the WRITES that may be the latest one are kept, as bits.
     */
    private static final class RowSearch {
        private static final int LONGEST = 14;
        private static final int NO_WRITE_YET = 1 << LONGEST;
        /** (4 + 1) * (4 + 1) * (3 + 1) * (3 + 1): no other split of 14 among four has more. */
        private static final int MOST_SPOTS = 400;

        private final Operation[] picked = new Operation[LONGEST];
        private final int[][] chains = new int[CLIENTS][LONGEST];
        private final int[] lengths = new int[CLIENTS];
        private final int[] strides = new int[CLIENTS];
        private final int[] placed = new int[CLIENTS];
        private final int[] latest = new int[MOST_SPOTS];
        private int pickedCount;

        /** Whether there are few enough; a READ that has not ended counts, but has no place. */
        boolean gather(Log log, int r) {
            int began = 0;
            pickedCount = 0;
            Arrays.fill(lengths, 0);
            for (int n = 0; n < log.begun; n++) {
                Operation each = log.operations[n];
                if ((each.kind == READ || each.kind == WRITE) && each.subject == r) {
                    began++;
                    if (began > LONGEST) {
                        return false;
                    }
                    if (each.kind == WRITE || each.hasEnded()) {
                        pick(each);
                    }
                }
            }
            return true;
        }

        private void pick(Operation each) {
            int c = each.client;
            chains[c][lengths[c]] = pickedCount;
            lengths[c]++;
            picked[pickedCount] = each;
            pickedCount++;
        }

        boolean findsRow() {
            int spots = layOut();
            for (int spot = 0; spot < spots; spot++) {
                if (latest[spot] != 0) {
                    if (allEndedArePlaced()) {
                        return true;
                    }
                    for (int c = 0; c < CLIENTS; c++) {
                        if (mayComeNext(c)) {
                            placeNext(spot, c);
                        }
                    }
                }
                stepOn();
            }
            return false;
        }

        private int layOut() {
            int spots = 1;
            for (int c = 0; c < CLIENTS; c++) {
                strides[c] = spots;
                spots *= lengths[c] + 1;
            }
            Arrays.fill(placed, 0);
            Arrays.fill(latest, 0);
            latest[0] = NO_WRITE_YET;
            return Math.min(spots, MOST_SPOTS);
        }

        /** Counts placed up as the spot goes up by one. */
        private void stepOn() {
            for (int c = 0; c < CLIENTS; c++) {
                if (placed[c] < lengths[c]) {
                    placed[c]++;
                    return;
                }
                placed[c] = 0;
            }
        }

        private boolean allEndedArePlaced() {
            for (int c = 0; c < CLIENTS; c++) {
                if (placed[c] < lengths[c] && nextOf(c).hasEnded()) {
                    return false;
                }
            }
            return true;
        }

        private Operation nextOf(int c) {
            return picked[chains[c][placed[c]]];
        }

        private boolean mayComeNext(int c) {
            if (placed[c] >= lengths[c]) {
                return false;
            }
            int begin = nextOf(c).beginMoment;
            for (int d = 0; d < CLIENTS; d++) {
                if (placed[d] < lengths[d] && nextOf(d).hasEnded() && nextOf(d).endMoment < begin) {
                    return false;
                }
            }
            return true;
        }

        private void placeNext(int spot, int c) {
            Operation next = nextOf(c);
            int writes = next.kind == WRITE
                ? 1 << chains[c][placed[c]]
                : latest[spot] & writesOf(next.result);
            int target = spot + strides[c];
            if (target < MOST_SPOTS) {
                latest[target] |= writes;
            }
        }

        private int writesOf(int value) {
            int writes = value == 0 ? NO_WRITE_YET : 0;
            for (int i = 0; i < pickedCount; i++) {
                if (picked[i].kind == WRITE && picked[i].value == value) {
                    writes |= 1 << i;
                }
            }
            return writes;
        }
    }
}
