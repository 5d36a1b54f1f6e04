import java.util.Arrays;
import java.util.NoSuchElementException;

/**
 * One line between a reader and a chip card. The face stands here; the classes behind it, in order:
 * Row (bytes), ResetAnswer (its parsing), Wire (letters and faults), Side (what each end holds),
 * Line (the rules of the turns), Journal (what was sent), Forecast (would and harm).
 */
public final class CardLink {
    public static final int NONE = -1;

    private static final int NO_SUCH = -2;
    private static final int TAPE_MOST = 96;
    private static final int MESSAGE_MOST = 60;
    private static final int ROOM_MOST = 254;
    private static final int ROOM_FIRST = 32;

    private static final int READER = 0;
    private static final int CARD = 1;

    private static final int IDLE = 0;
    private static final int ON_WAY = 1;
    private static final int DONE = 2;
    private static final int GIVEN_UP = 3;
    private static final int DEAD = 4;

    private static final int WHOLE = 0;
    private static final int BROKEN_PARITY = 1;
    private static final int BROKEN_OTHER = 2;
    private static final int NOTHING = 3;

    private static final int SPOILT = 1;
    private static final int TURNED = 2;
    private static final int LOST = 3;

    private static final int MORE = 32;
    private static final int R_KIND = 128;
    private static final int S_KIND = 192;
    private static final int RESPONSE = 32;
    private static final int RESYNCH = 0;
    private static final int ROOM = 1;
    private static final int ABORT = 2;
    private static final int WAIT = 3;

    private final Row tape = new Row(TAPE_MOST, TAPE_MOST);
    private final Journal journal = new Journal();
    private final Line line = new Line(journal);
    private final Forecast forecast = new Forecast();
    // Two, so that a refused reset answer leaves the one in force as it was.
    private ResetAnswer inForce = new ResetAnswer();
    private ResetAnswer spare = new ResetAnswer();
    private boolean cardIn = false;

    public CardLink() {
    }

    public int feed(long a, long b) {
        if (tape.size() + 16 > TAPE_MOST) {
            return NONE;
        }
        feedEight(a);
        feedEight(b);
        return tape.size();
    }

    private void feedEight(long bytes) {
        for (int shift = 56; shift >= 0; shift -= 8) {
            tape.add((int) (bytes >>> shift) & 255);
        }
    }

    public int end(int n) {
        if (n < 0 || n > tape.size()) {
            return NONE;
        }
        tape.keep(n);
        return n;
    }

    public int reset() {
        int fault = spare.read(tape);
        tape.keep(0);
        if (fault != 0) {
            return -2 - fault;
        }
        ResetAnswer before = inForce;
        inForce = spare;
        spare = before;
        cardIn = true;
        journal.forgetAll();
        line.restart(inForce.cardRoom());
        forecast.forget();
        return inForce.historicalBytes();
    }

    public int answer(int what) {
        return cardIn ? inForce.tell(what) : NONE;
    }

    public int historical(int i) {
        if (!cardIn || i < 0 || i >= inForce.historicalBytes()) {
            return NONE;
        }
        return inForce.historicalByte(i);
    }

    public int message() {
        int answer = NONE;
        if (mayStart() && tape.size() <= MESSAGE_MOST) {
            line.startMessage(tape);
            forecast.forget();
            answer = line.blocksAhead();
        }
        tape.keep(0);
        return answer;
    }

    public int room(int n) {
        if (!mayStart() || n < 1 || n > ROOM_MOST) {
            return NONE;
        }
        line.startRoom(n);
        forecast.forget();
        return 1;
    }

    private boolean mayStart() {
        return cardIn && line.state != ON_WAY && line.state != DEAD;
    }

    private boolean onWay() {
        return cardIn && line.state == ON_WAY;
    }

    public int fault(int letter, int kind, int bits) {
        boolean goodBits = kind == TURNED ? bits >= 1 && bits <= 255 : bits == 0;
        if (!cardIn || letter < 0 || letter > 999 || kind < SPOILT || kind > LOST || !goodBits) {
            return NONE;
        }
        if (line.wire.isFull()) {
            return NONE;
        }
        line.wire.addFault(letter, kind, bits);
        forecast.forget();
        return line.wire.faults();
    }

    public int repeats(int n) {
        if (n < 0 || n > 3) {
            return NONE;
        }
        int before = line.wire.repeats;
        line.wire.repeats = n;
        forecast.forget();
        return before;
    }

    public int step(int n) {
        if (n < 1 || n > 60 || !onWay()) {
            return NONE;
        }
        forecast.forget();
        return line.run(n);
    }

    public int state() {
        return cardIn ? line.state : NONE;
    }

    public int side(int side, int what) {
        if (!cardIn || side < READER || side > CARD) {
            return NO_SUCH;
        }
        return sideOf(side).tell(what);
    }

    private Side sideOf(int number) {
        return number == READER ? line.reader : line.card;
    }

    public int got(int side, int i) {
        if (!cardIn || side < READER || side > CARD) {
            return NO_SUCH;
        }
        Side at = sideOf(side);
        if (at.messages == 0 || i < NONE || i >= at.got.size()) {
            return NO_SUCH;
        }
        return i == NONE ? at.got.size() : at.got.at(i);
    }

    public int log(int i, int what) throws NoSuchElementException {
        if (i < 0 || i >= journal.kept() || what < 0 || what > 5) {
            throw new NoSuchElementException();
        }
        return journal.tell(i, what);
    }

    public int byteOf(int i, int k) {
        if (i < 0 || i >= journal.kept()) {
            return NONE;
        }
        return journal.byteAt(i, k);
    }

    public int would(int what) {
        if (!onWay()) {
            return NONE;
        }
        Line then = forecast.outlook(line);
        switch (what) {
            case 0:
                return then.state;
            case 1:
                return then.blocksSent() - line.blocksSent();
            case 2:
                return then.wire.letters - line.wire.letters;
            case 3:
                return then.state == DONE && then.reader.messages > 0 ? then.reader.got.size() : NONE;
            default:
                return NONE;
        }
    }

    public int harm(int kind, int what) {
        if (kind < SPOILT || kind > LOST || what < 0 || what > 1 || !onWay()) {
            return NONE;
        }
        if (forecast.outlook(line).state != DONE) {
            return NONE;
        }
        forecast.tryAll(line, kind);
        return what == 0 ? forecast.harmful(kind) : forecast.firstHarmful(kind);
    }

    public int count(int what) {
        switch (what) {
            case 0:
                return line.wire.letters;
            case 1:
                return line.wire.lettersAgain;
            case 2:
                return line.wire.faults();
            case 3:
                return line.tries;
            case 4:
                return journal.unlike();
            case 5:
                return journal.kept();
            case 6:
                return line.wire.repeats;
            case 7:
                return line.waitsEnded;
            case 8:
                return line.timesDone;
            case 9:
                return line.timesGivenUp;
            case 10:
                return tape.size();
            default:
                return NONE;
        }
    }

    /** Numbers in their order, up to a bound; what comes beyond it is not kept. */
    private static final class Row {
        private int[] items;
        private int length = 0;
        private final int most;

        Row(int first, int most) {
            items = new int[Math.max(0, first)];
            this.most = most;
        }

        int size() {
            return length;
        }

        int at(int i) {
            return i >= 0 && i < length && i < items.length ? items[i] : 0;
        }

        void put(int i, int item) {
            if (i >= 0 && i < length && i < items.length) {
                items[i] = item;
            }
        }

        void add(int item) {
            if (length >= most) {
                return;
            }
            if (length >= items.length) {
                items = Arrays.copyOf(items, Math.max(1, Math.min(most, 2 * items.length)));
            }
            if (length >= 0 && length < items.length) {
                items[length] = item;
                length++;
            }
        }

        void keep(int n) {
            length = Math.max(0, Math.min(n, length));
        }

        void copy(Row other) {
            int n = Math.min(other.length, Math.min(other.items.length, items.length));
            if (n > 0) {
                System.arraycopy(other.items, 0, items, 0, n);
            }
            length = Math.max(0, n);
        }

        boolean same(Row other) {
            if (length != other.length) {
                return false;
            }
            for (int i = 0; i < length; i++) {
                if (at(i) != other.at(i)) {
                    return false;
                }
            }
            return true;
        }

        int xor(int from) {
            int sum = 0;
            for (int i = from; i < length; i++) {
                sum ^= at(i);
            }
            return sum;
        }
    }

    /** The card's reset answer, parsed byte by byte. */
    private static final class ResetAnswer {
        private static final int ENDS = 1;
        private static final int BAD_TS = 2;
        private static final int BAD_TD = 3;
        private static final int BAD_FACTOR = 4;
        private static final int BAD_LINK_BYTE = 5;
        private static final int BAD_CHECK = 6;
        private static final int TOO_MANY = 7;
        private static final int GROUPS_MOST = 4;
        private static final int[] CLOCKS = {372, 372, 558, 744, 1116, 1488, 1860, 0, 0, 512, 768, 1024, 1536, 2048, 0, 0};
        private static final int[] DIVISORS = {0, 1, 2, 4, 8, 16, 32, 64, 12, 20, 0, 0, 0, 0, 0, 0};

        private int ts;
        private int factor;
        private int guard;
        private int protocol;
        private int groups;
        private int room;
        private boolean checked;
        private final Row historical = new Row(15, 15);

        private int place;
        private int told;
        private int linkGroup;

        /** 0, or 8 * place + kind of the fault. */
        int read(Row tape) {
            clear();
            int fault = readHead(tape);
            if (fault == 0) {
                fault = readGroups(tape);
            }
            if (fault == 0) {
                fault = readTail(tape, tape.at(1) & 15);
            }
            return fault;
        }

        private void clear() {
            factor = 17;
            guard = 0;
            protocol = 0;
            groups = 0;
            room = ROOM_FIRST;
            checked = false;
            historical.keep(0);
            linkGroup = 0;
        }

        private static int faultAt(int place, int kind) {
            return 8 * place + kind;
        }

        private int readHead(Row tape) {
            if (tape.size() == 0) {
                return faultAt(0, ENDS);
            }
            ts = tape.at(0);
            if (ts != 59 && ts != 63) {
                return faultAt(0, BAD_TS);
            }
            if (tape.size() == 1) {
                return faultAt(1, ENDS);
            }
            told = tape.at(1) >> 4;
            place = 2;
            return 0;
        }

        private int readGroups(Row tape) {
            for (int group = 1; group <= GROUPS_MOST && told != 0; group++) {
                groups = group;
                int here = told;
                told = 0;
                for (int letter = 0; letter < 4; letter++) {
                    if ((here >> letter & 1) == 0) {
                        continue;
                    }
                    if (place >= tape.size()) {
                        return faultAt(place, ENDS);
                    }
                    int kind = readGroupByte(group, letter, tape.at(place));
                    if (kind != 0) {
                        return faultAt(place, kind);
                    }
                    place++;
                }
            }
            return 0;
        }

        /** Letter 0 to 3 for TA to TD: 0, or the kind of the byte's fault. */
        private int readGroupByte(int group, int letter, int value) {
            if (letter == 3) {
                return readTd(group, value);
            }
            if (group == 1) {
                return readFirstGroup(letter, value);
            }
            return group == linkGroup ? readLinkGroup(letter, value) : 0;
        }

        private int readFirstGroup(int letter, int value) {
            if (letter == 0) {
                factor = value;
                return clockOf(value) == 0 || divisorOf(value) == 0 ? BAD_FACTOR : 0;
            }
            if (letter == 2) {
                guard = value;
            }
            return 0;
        }

        private int readLinkGroup(int letter, int value) {
            if (letter == 0) {
                room = value;
                return value < 1 || value > ROOM_MOST ? BAD_LINK_BYTE : 0;
            }
            if (letter == 1) {
                return value >> 4 > 9 ? BAD_LINK_BYTE : 0;
            }
            return value != 0 ? BAD_LINK_BYTE : 0;
        }

        private int readTd(int group, int value) {
            int tells = value & 15;
            told = value >> 4;
            if (tells != 0 && tells != 1 && tells != 15 || group == GROUPS_MOST && told != 0) {
                return BAD_TD;
            }
            if (group == 1) {
                protocol = tells;
            } else if (tells == 1 && linkGroup == 0) {
                linkGroup = group + 1;
            }
            if (tells != 0) {
                checked = true;
            }
            return 0;
        }

        private int readTail(Row tape, int historicalBytes) {
            for (int i = 0; i < historicalBytes; i++) {
                if (place >= tape.size()) {
                    return faultAt(place, ENDS);
                }
                historical.add(tape.at(place));
                place++;
            }
            if (checked) {
                if (place >= tape.size()) {
                    return faultAt(place, ENDS);
                }
                int sum = 0;
                for (int i = 1; i <= place; i++) {
                    sum ^= tape.at(i);
                }
                if (sum != 0) {
                    return faultAt(place, BAD_CHECK);
                }
                place++;
            }
            return place < tape.size() ? faultAt(place, TOO_MANY) : 0;
        }

        private static int clockOf(int factor) {
            int i = factor >> 4;
            return i >= 0 && i < CLOCKS.length ? CLOCKS[i] : 0;
        }

        private static int divisorOf(int factor) {
            int i = factor & 15;
            return i < DIVISORS.length ? DIVISORS[i] : 0;
        }

        int cardRoom() {
            return room;
        }

        int historicalBytes() {
            return historical.size();
        }

        int historicalByte(int i) {
            return historical.at(i);
        }

        int tell(int what) {
            switch (what) {
                case 0:
                    return ts;
                case 1:
                    return clockOf(factor);
                case 2:
                    return divisorOf(factor);
                case 3:
                    return guard;
                case 4:
                    return protocol;
                case 5:
                    return groups;
                case 6:
                    return historical.size();
                case 7:
                    return room;
                case 8:
                    return checked ? 1 : 0;
                default:
                    return NONE;
            }
        }
    }

    /** The letters on the line, and the faults told of those to come. */
    private static final class Wire {
        private static final int FAULTS_MOST = 24;

        int repeats = 1;
        int letters = 0;
        int lettersAgain = 0;
        // By their letters, the nearest first; a fault that has come is there no more.
        private final int[] faultLetters = new int[FAULTS_MOST];
        private final int[] faultKinds = new int[FAULTS_MOST];
        private final int[] faultBits = new int[FAULTS_MOST];
        private int faults = 0;
        // A single fault more, for Forecast; it stands in place of one told of the same letter.
        private int probeLetter = NONE;
        private int probeKind = 0;
        private int bitsNow = 0;

        void restart() {
            letters = 0;
            lettersAgain = 0;
            faults = 0;
            probeLetter = NONE;
        }

        void copy(Wire other) {
            repeats = other.repeats;
            letters = other.letters;
            lettersAgain = other.lettersAgain;
            faults = other.faults;
            for (int i = 0; i < faults && i < FAULTS_MOST; i++) {
                faultLetters[i] = other.faultLetters[i];
                faultKinds[i] = other.faultKinds[i];
                faultBits[i] = other.faultBits[i];
            }
            probeLetter = other.probeLetter;
            probeKind = other.probeKind;
        }

        void probe(int letter, int kind) {
            probeLetter = letter;
            probeKind = kind;
        }

        int faults() {
            return faults;
        }

        boolean isFull() {
            return faults >= FAULTS_MOST;
        }

        /** A fault of the letter that is so many behind the next one; only where there is room for one more. */
        void addFault(int ahead, int kind, int bits) {
            int letter = letters + ahead;
            int i = 0;
            while (i < faults && i < FAULTS_MOST && faultLetters[i] < letter) {
                i++;
            }
            if (i >= FAULTS_MOST) {
                return;
            }
            if (i >= faults || faultLetters[i] != letter) {
                makePlace(i);
            }
            faultLetters[i] = letter;
            faultKinds[i] = kind;
            faultBits[i] = bits;
        }

        private void makePlace(int i) {
            for (int k = Math.min(faults, FAULTS_MOST - 1); k > i && k > 0; k--) {
                faultLetters[k] = faultLetters[k - 1];
                faultKinds[k] = faultKinds[k - 1];
                faultBits[k] = faultBits[k - 1];
            }
            faults = Math.min(faults + 1, FAULTS_MOST);
        }

        private void dropNearest() {
            for (int k = 1; k < faults && k < FAULTS_MOST; k++) {
                faultLetters[k - 1] = faultLetters[k];
                faultKinds[k - 1] = faultKinds[k];
                faultBits[k - 1] = faultBits[k];
            }
            faults--;
        }

        /** One letter goes: 0, or the kind of its fault, whose bits are in bitsNow. */
        private int sendLetter() {
            int kind = 0;
            if (faults > 0 && faultLetters[0] == letters) {
                kind = faultKinds[0];
                bitsNow = faultBits[0];
                dropNearest();
            }
            if (letters == probeLetter) {
                kind = probeKind;
                bitsNow = 1;
            }
            letters++;
            return kind;
        }

        /** Sends the block, puts behind each other what comes: WHOLE, BROKEN_PARITY, BROKEN_OTHER, NOTHING by its letters alone. */
        int carry(Row block, Row came) {
            came.keep(0);
            boolean spoilt = false;
            for (int i = 0; i < block.size(); i++) {
                int kind = sendLetter();
                for (int again = 0; again < repeats && kind == SPOILT; again++) {
                    lettersAgain++;
                    kind = sendLetter();
                }
                if (kind == SPOILT) {
                    spoilt = true;
                }
                if (kind != LOST) {
                    came.add(kind == TURNED ? block.at(i) ^ bitsNow : block.at(i));
                }
            }
            if (came.size() == 0) {
                return NOTHING;
            }
            if (came.size() < block.size()) {
                return BROKEN_OTHER;
            }
            return spoilt ? BROKEN_PARITY : WHOLE;
        }
    }

    /** What the reader or the card holds. */
    private static final class Side {
        final int number;
        int next = 0;
        int wanted = 0;
        int room = ROOM_FIRST;
        int through = 0;
        int asked = NONE;
        int askedInf = 0;
        int messages = 0;
        final Row out = new Row(MESSAGE_MOST, MESSAGE_MOST);
        final Row got = new Row(MESSAGE_MOST, MESSAGE_MOST);
        private final Row in = new Row(MESSAGE_MOST, MESSAGE_MOST);
        // How many bytes of OUT the pending block holds, NONE without one.
        private int pending = NONE;
        private boolean pendingMore = false;
        private int latestKind = NONE;
        private int sent = 0;

        Side(int number) {
            this.number = number;
        }

        void restart(int firstRoom) {
            emptyAll();
            asked = NONE;
            room = firstRoom;
            messages = 0;
            got.keep(0);
            latestKind = NONE;
            sent = 0;
        }

        void copy(Side other) {
            next = other.next;
            wanted = other.wanted;
            room = other.room;
            through = other.through;
            asked = other.asked;
            askedInf = other.askedInf;
            messages = other.messages;
            out.copy(other.out);
            got.copy(other.got);
            in.copy(other.in);
            pending = other.pending;
            pendingMore = other.pendingMore;
            latestKind = other.latestKind;
            sent = other.sent;
        }

        /** As RESYNCH leaves a side. */
        void emptyAll() {
            next = 0;
            wanted = 0;
            pending = NONE;
            out.keep(0);
            through = 0;
            in.keep(0);
        }

        /** As ABORT leaves a side. */
        void breakOff() {
            passPending();
            out.keep(0);
            through = 0;
            in.keep(0);
        }

        /** Makes the next bytes of OUT the pending block: its kind. */
        int cutNext(int roomThere) {
            int left = Math.max(0, out.size() - through);
            pending = Math.min(left, roomThere);
            pendingMore = left > pending;
            return pendingKind();
        }

        int pendingKind() {
            return 64 * next + (pendingMore ? MORE : 0);
        }

        int pendingSize() {
            return Math.max(0, pending);
        }

        boolean hasPending() {
            return pending != NONE;
        }

        boolean pendingHasMore() {
            return pending != NONE && pendingMore;
        }

        void passPending() {
            if (pending != NONE) {
                through += pending;
                pending = NONE;
                next = 1 - next;
            }
        }

        void takeInf(Row block) {
            for (int i = 3; i < block.size() - 1; i++) {
                in.add(block.at(i));
            }
            wanted = 1 - wanted;
        }

        void takeWhole() {
            got.copy(in);
            in.keep(0);
            messages++;
        }

        void takeEmpty() {
            got.keep(0);
            messages++;
        }

        int requestKind() {
            return S_KIND + asked;
        }

        int ask(int what, int inf) {
            asked = what;
            askedInf = inf;
            return requestKind();
        }

        int receipt(int reason) {
            return R_KIND + 16 * wanted + reason;
        }

        void noteSent(int kind) {
            latestKind = kind;
            sent++;
        }

        int blocksSent() {
            return sent;
        }

        int tell(int what) {
            switch (what) {
                case 0:
                    return next;
                case 1:
                    return wanted;
                case 2:
                    return room;
                case 3:
                    return out.size();
                case 4:
                    return through;
                case 5:
                    return in.size();
                case 6:
                    return latestKind;
                case 7:
                    return asked;
                case 8:
                    return pending == NONE ? NONE : next;
                case 9:
                    return sent;
                case 10:
                    return messages;
                default:
                    return NO_SUCH;
            }
        }
    }

    /** The rules of the turns. What a side sends is told by its kind, NONE for nothing, or one of the words below. */
    private static final class Line {
        private static final int TRIES_MOST = 3;
        // An I block that is still to be cut: the first one of OUT, the next one.
        private static final int FIRST_I = -2;
        private static final int NEXT_I = -3;
        // To be found by doing the message that came whole to the card.
        private static final int BY_MESSAGE = -4;

        final Side reader = new Side(READER);
        final Side card = new Side(CARD);
        final Wire wire = new Wire();
        int state = IDLE;
        int tries = 0;
        int waitsEnded = 0;
        int timesDone = 0;
        int timesGivenUp = 0;
        private final Row block = new Row(MESSAGE_MOST + 4, MESSAGE_MOST + 4);
        private final Row came = new Row(MESSAGE_MOST + 4, MESSAGE_MOST + 4);
        // Null in a forecast, whose blocks leave no trace.
        private final Journal journal;
        private int outcome = NOTHING;
        private boolean firstTurn = false;
        // The room that the first turn asks for, NONE if it sends a message.
        private int roomWish = NONE;
        // Whether the reader's turn is one of those that TRIES counts.
        private boolean stuck = false;
        private boolean toldAbort = false;
        private int waitsLeft = 0;
        private int silentTurns = 0;

        Line(Journal journal) {
            this.journal = journal;
        }

        void restart(int cardRoom) {
            reader.restart(ROOM_FIRST);
            card.restart(cardRoom);
            wire.restart();
            state = IDLE;
            tries = 0;
            waitsEnded = 0;
            timesDone = 0;
            timesGivenUp = 0;
            came.keep(0);
            outcome = NOTHING;
            firstTurn = false;
            toldAbort = false;
            waitsLeft = 0;
            silentTurns = 0;
        }

        void copy(Line other) {
            reader.copy(other.reader);
            card.copy(other.card);
            wire.copy(other.wire);
            state = other.state;
            tries = other.tries;
            waitsEnded = other.waitsEnded;
            timesDone = other.timesDone;
            timesGivenUp = other.timesGivenUp;
            came.copy(other.came);
            outcome = other.outcome;
            firstTurn = other.firstTurn;
            roomWish = other.roomWish;
            toldAbort = other.toldAbort;
            waitsLeft = other.waitsLeft;
            silentTurns = other.silentTurns;
        }

        void startMessage(Row message) {
            reader.out.copy(message);
            reader.through = 0;
            toldAbort = false;
            begin(NONE);
        }

        void startRoom(int n) {
            begin(n);
        }

        private void begin(int wish) {
            state = ON_WAY;
            firstTurn = true;
            roomWish = wish;
        }

        /** How many I blocks the message that waits has, as the card's room is now. */
        int blocksAhead() {
            int size = reader.out.size();
            int blocks = 1;
            for (int sent = card.room; sent < size && blocks < MESSAGE_MOST; sent += card.room) {
                blocks++;
            }
            return blocks;
        }

        int blocksSent() {
            return reader.blocksSent() + card.blocksSent();
        }

        /** So many turns of the reader at most: how many blocks were sent. */
        int run(int turns) {
            int before = blocksSent();
            for (int i = 0; i < turns && state == ON_WAY; i++) {
                turn();
            }
            return blocksSent() - before;
        }

        void turn() {
            int kind = firstTurn ? firstKind() : countTries(readerKind());
            if (kind == NONE) {
                return;
            }
            send(reader, card, kind);
            kind = cardKind();
            if (kind == BY_MESSAGE) {
                kind = doMessage();
            }
            if (kind == NONE) {
                outcome = NOTHING;
                return;
            }
            send(card, reader, kind);
        }

        private int firstKind() {
            firstTurn = false;
            tries = 0;
            return roomWish == NONE ? FIRST_I : reader.ask(ROOM, roomWish);
        }

        private int countTries(int kind) {
            tries = stuck ? tries + 1 : 0;
            if (tries < TRIES_MOST) {
                return kind;
            }
            tries = 0;
            if (reader.asked == RESYNCH) {
                state = DEAD;
                return NONE;
            }
            return reader.ask(RESYNCH, 0);
        }

        private int readerKind() {
            stuck = false;
            if (outcome != WHOLE) {
                return onBroken(reader);
            }
            int kind = came.at(1);
            if (reader.asked != NONE) {
                return readerOnAnswer();
            }
            if (kind >= S_KIND) {
                return onRequest(reader, card, kind);
            }
            if (kind < R_KIND) {
                return onI(reader, kind);
            }
            if (toldAbort) {
                reader.takeEmpty();
                return finish(DONE);
            }
            return onReceipt(reader, kind);
        }

        private int cardKind() {
            if (silentTurns > 0) {
                silentTurns--;
                return silentTurns > 0 ? NONE : putFirstByte();
            }
            if (outcome == NOTHING) {
                return NONE;
            }
            if (outcome != WHOLE) {
                return onBroken(card);
            }
            int kind = came.at(1);
            if (kind == S_KIND + RESYNCH) {
                card.emptyAll();
                card.asked = NONE;
                return S_KIND + RESPONSE + RESYNCH;
            }
            if (card.asked != NONE) {
                return cardOnAnswer();
            }
            if (kind >= S_KIND) {
                return onRequest(card, reader, kind);
            }
            return kind < R_KIND ? onI(card, kind) : onReceipt(card, kind);
        }

        private int onBroken(Side me) {
            stuck = true;
            if (me.asked != NONE) {
                return me.requestKind();
            }
            return me.receipt(outcome == BROKEN_PARITY ? 1 : 2);
        }

        /** R with 2: what came whole is not what could come. */
        private int refuse(Side me) {
            stuck = true;
            return me.receipt(2);
        }

        private boolean isAnswerTo(Side me) {
            if (came.at(1) != me.requestKind() + RESPONSE) {
                return false;
            }
            return came.at(2) == 0 || came.at(3) == me.askedInf;
        }

        private int readerOnAnswer() {
            if (!isAnswerTo(reader)) {
                stuck = true;
                return reader.requestKind();
            }
            boolean resynched = reader.asked == RESYNCH;
            reader.asked = NONE;
            if (resynched) {
                reader.emptyAll();
            }
            return finish(resynched ? GIVEN_UP : DONE);
        }

        private int finish(int how) {
            state = how;
            if (how == DONE) {
                timesDone++;
            } else {
                timesGivenUp++;
            }
            return NONE;
        }

        private int cardOnAnswer() {
            if (!isAnswerTo(card)) {
                return card.requestKind();
            }
            int asked = card.asked;
            card.asked = NONE;
            if (asked == ABORT) {
                return card.receipt(0);
            }
            if (asked == ROOM) {
                return putFirstByte();
            }
            waitsEnded++;
            waitsLeft--;
            return waitsLeft > 0 ? card.ask(WAIT, card.askedInf) : putBehindThird();
        }

        private int onI(Side me, int kind) {
            if (kind >> 6 != me.wanted || me.pendingHasMore()) {
                return refuse(me);
            }
            me.passPending();
            me.takeInf(came);
            if ((kind & MORE) != 0) {
                return me.receipt(0);
            }
            me.takeWhole();
            return me == reader ? finish(DONE) : BY_MESSAGE;
        }

        private int onReceipt(Side me, int kind) {
            if (!me.hasPending()) {
                return me.receipt(0);
            }
            if ((kind >> 4 & 1) == me.next) {
                stuck = true;
                return me.pendingKind();
            }
            boolean more = me.pendingHasMore();
            me.passPending();
            return more ? NEXT_I : me.receipt(0);
        }

        private int onRequest(Side me, Side other, int kind) {
            int what = kind - S_KIND;
            if (what == ROOM) {
                other.room = came.at(3);
                return kind + RESPONSE;
            }
            if (me == reader && what == ABORT) {
                reader.breakOff();
                toldAbort = true;
                return kind + RESPONSE;
            }
            if (me == reader && what == WAIT) {
                return kind + RESPONSE;
            }
            return refuse(me);
        }

        /** The card does the message that came to it last. */
        private int doMessage() {
            Row message = card.got;
            int second = message.at(1);
            switch (message.at(0) & 7) {
                case 0:
                    card.out.copy(message);
                    return FIRST_I;
                case 1:
                    return putCounting(second % 61);
                case 2:
                    waitsLeft = message.size() > 2 ? message.at(2) & 3 : 1;
                    return waitsLeft > 0 ? card.ask(WAIT, message.size() > 1 ? second : 1) : putBehindThird();
                case 3:
                    return card.ask(ROOM, second >= 1 && second <= ROOM_MOST ? second : ROOM_FIRST);
                case 4:
                    return card.ask(ABORT, 0);
                case 5:
                    silentTurns = (second & 3) + 1;
                    return NONE;
                default:
                    card.out.keep(0);
                    card.out.add(message.at(0));
                    card.out.add(message.size());
                    return FIRST_I;
            }
        }

        private int putCounting(int bytes) {
            card.out.keep(0);
            for (int i = 0; i < bytes; i++) {
                card.out.add(i);
            }
            return FIRST_I;
        }

        private int putBehindThird() {
            card.out.keep(0);
            for (int i = 3; i < card.got.size(); i++) {
                card.out.add(card.got.at(i));
            }
            return FIRST_I;
        }

        private int putFirstByte() {
            card.out.keep(0);
            card.out.add(card.got.at(0));
            return FIRST_I;
        }

        /** The kind of what is sent, where an I block had still to be cut. */
        private static int kindToSend(Side from, Side to, int kind) {
            if (kind == FIRST_I) {
                from.through = 0;
            }
            return kind == FIRST_I || kind == NEXT_I ? from.cutNext(to.room) : kind;
        }

        private void send(Side from, Side to, int planned) {
            int kind = kindToSend(from, to, planned);
            compose(from, kind);
            from.noteSent(kind);
            int before = wire.letters;
            int byLetters = wire.carry(block, came);
            outcome = judge(byLetters, to.room);
            if (journal != null) {
                journal.note(journal.idOf(from.number, block), outcome, wire.letters - before);
            }
        }

        private void compose(Side from, int kind) {
            // A response gives back what came, so it is taken before the block is built.
            int inf = kind >= S_KIND + RESPONSE ? came.at(3) : from.askedInf;
            block.keep(0);
            block.add(0);
            block.add(kind);
            if (kind < R_KIND) {
                block.add(from.pendingSize());
                for (int i = 0; i < from.pendingSize(); i++) {
                    block.add(from.out.at(from.through + i));
                }
            } else if (hasInf(kind)) {
                block.add(1);
                block.add(inf);
            } else {
                block.add(0);
            }
            block.add(block.xor(0));
        }

        private static boolean hasInf(int kind) {
            return kind >= S_KIND && (kind & 1) == 1;
        }

        /** What comes of a block whose letters came so. */
        private int judge(int byLetters, int roomThere) {
            if (byLetters == NOTHING || byLetters == BROKEN_OTHER) {
                return byLetters;
            }
            if (came.size() != came.at(2) + 4) {
                return BROKEN_OTHER;
            }
            if (byLetters == BROKEN_PARITY || came.xor(0) != 0) {
                return BROKEN_PARITY;
            }
            return isWellFormed(came.at(1), came.at(2), roomThere) ? WHOLE : BROKEN_OTHER;
        }

        private boolean isWellFormed(int kind, int len, int roomThere) {
            if (came.at(0) != 0) {
                return false;
            }
            if (kind < R_KIND) {
                return (kind & 31) == 0 && len <= roomThere;
            }
            if (kind < S_KIND) {
                return (kind & 32) == 0 && (kind & 15) <= 2 && len == 0;
            }
            if ((kind & 31) > WAIT || len != (hasInf(kind) ? 1 : 0)) {
                return false;
            }
            return (kind & 31) != ROOM || came.at(3) >= 1 && came.at(3) <= ROOM_MOST;
        }
    }

    /** The blocks that were sent: each unlike one once, with how often it was, and the latest in their order. */
    private static final class Journal {
        private static final int LATEST = 30;
        private static final int CHAINS = 256;
        // Both stand far above what 512 calls can send.
        private static final int UNLIKE_MOST = 65536;
        private static final int BYTES_MOST = 1048576;

        // Of each unlike block: its side, then its bytes.
        private final Row bytes = new Row(256, BYTES_MOST);
        private final Row starts = new Row(32, UNLIKE_MOST);
        private final Row times = new Row(32, UNLIKE_MOST);
        private final Row following = new Row(32, UNLIKE_MOST);
        private final Row chains = new Row(CHAINS, CHAINS);
        private final Row latest = new Row(LATEST, LATEST);
        private final Row outcomes = new Row(LATEST, LATEST);
        private final Row took = new Row(LATEST, LATEST);
        private int newest = NONE;

        void forgetAll() {
            bytes.keep(0);
            starts.keep(0);
            times.keep(0);
            following.keep(0);
            chains.keep(0);
            latest.keep(0);
            outcomes.keep(0);
            took.keep(0);
            newest = NONE;
        }

        int unlike() {
            return starts.size();
        }

        int kept() {
            return latest.size();
        }

        void note(int id, int outcome, int letters) {
            times.put(id, times.at(id) + 1);
            newest = newest + 1 < LATEST ? newest + 1 : 0;
            if (latest.size() < LATEST) {
                latest.add(id);
                outcomes.add(outcome);
                took.add(letters);
            } else {
                latest.put(newest, id);
                outcomes.put(newest, outcome);
                took.put(newest, letters);
            }
        }

        /** The number of the like of this block; an unlike one gets the next. */
        int idOf(int side, Row block) {
            for (int i = chains.size(); i < CHAINS; i++) {
                chains.add(NONE);
            }
            int chain = chainOf(side, block);
            int id = chains.at(chain);
            for (int i = 0; i < starts.size() && id != NONE; i++) {
                if (isBlock(id, side, block)) {
                    return id;
                }
                id = following.at(id);
            }
            return addUnlike(side, block, chain);
        }

        private static int chainOf(int side, Row block) {
            int mix = side;
            for (int i = 1; i < block.size(); i++) {
                mix = 31 * mix + block.at(i);
            }
            return (mix ^ mix >>> 8) & CHAINS - 1;
        }

        private boolean isBlock(int id, int side, Row block) {
            int start = starts.at(id);
            if (bytes.at(start) != side) {
                return false;
            }
            // LEN stands early, so blocks of unlike lengths part before one's end.
            for (int i = 0; i < block.size(); i++) {
                if (bytes.at(start + 1 + i) != block.at(i)) {
                    return false;
                }
            }
            return true;
        }

        private int addUnlike(int side, Row block, int chain) {
            int id = starts.size();
            if (id >= UNLIKE_MOST || bytes.size() + block.size() >= BYTES_MOST) {
                return NONE;
            }
            starts.add(bytes.size());
            times.add(0);
            following.add(chains.at(chain));
            chains.put(chain, id);
            bytes.add(side);
            for (int i = 0; i < block.size(); i++) {
                bytes.add(block.at(i));
            }
            return id;
        }

        private int placeOf(int i) {
            int place = newest - i;
            return place < 0 ? place + LATEST : place;
        }

        int tell(int i, int what) {
            int place = placeOf(i);
            int id = latest.at(place);
            int start = starts.at(id);
            switch (what) {
                case 0:
                    return bytes.at(start);
                case 1:
                    return bytes.at(start + 2);
                case 2:
                    return bytes.at(start + 3);
                case 3:
                    return outcomes.at(place);
                case 4:
                    return took.at(place);
                default:
                    return times.at(id);
            }
        }

        int byteAt(int i, int k) {
            int start = starts.at(latest.at(placeOf(i)));
            if (k < 0 || k >= bytes.at(start + 3) + 4) {
                return NONE;
            }
            return bytes.at(start + 1 + k);
        }
    }

    /** What would become of the line; kept until it changes, for questions come one behind another. */
    private static final class Forecast {
        private static final int TURNS_MOST = 400;

        private final Line outlook = new Line(null);
        private final Line walk = new Line(null);
        private final Line fork = new Line(null);
        private boolean outlookKnown = false;
        // By kind 1 to 3; 0 of tried: not yet.
        private final int[] tried = new int[4];
        private final int[] harmful = new int[4];
        private final int[] firsts = new int[4];

        void forget() {
            outlookKnown = false;
            Arrays.fill(tried, 0);
        }

        Line outlook(Line now) {
            if (!outlookKnown) {
                outlook.copy(now);
                for (int turn = 0; turn < TURNS_MOST && outlook.state == ON_WAY; turn++) {
                    outlook.turn();
                }
                outlookKnown = true;
            }
            return outlook;
        }

        int harmful(int kind) {
            return kind >= 0 && kind < harmful.length ? harmful[kind] : 0;
        }

        int firstHarmful(int kind) {
            return kind >= 0 && kind < firsts.length ? firsts[kind] : NONE;
        }

        /** Behind outlook(now) alone: a fault of the kind at each letter by itself that is sent there. */
        void tryAll(Line now, int kind) {
            if (kind < 0 || kind >= tried.length || kind >= harmful.length || kind >= firsts.length || tried[kind] == 1) {
                return;
            }
            tried[kind] = 1;
            harmful[kind] = 0;
            firsts[kind] = NONE;
            walk.copy(now);
            for (int turn = 0; turn < TURNS_MOST && walk.state == ON_WAY; turn++) {
                // Before its letter a fault changes nothing, so each try starts at the turn that sends it.
                int from = walk.wire.letters;
                fork.copy(walk);
                fork.turn();
                int to = fork.wire.letters;
                for (int letter = from; letter < to; letter++) {
                    fork.copy(walk);
                    fork.wire.probe(letter, kind);
                    for (int later = turn; later < TURNS_MOST && fork.state == ON_WAY; later++) {
                        fork.turn();
                    }
                    if (forkIsHarmed()) {
                        harmful[kind]++;
                        firsts[kind] = firsts[kind] == NONE ? letter - now.wire.letters : firsts[kind];
                    }
                }
                walk.turn();
            }
        }

        private boolean forkIsHarmed() {
            return fork.state != DONE || !fork.reader.got.same(outlook.reader.got);
        }
    }
}
