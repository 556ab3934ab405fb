/** A row of live and dead signs that is kept as runs; ../shared/DOC.md says what each method promises. */
public final class DeadRuns {
    public static final int NO_SUCH = -1, BAD_VALUE = -2, BAD_TEXT = -3, TOO_MANY = -4, NOT_POSSIBLE = -5, NONE = -6;
    public static final int CODE = 0, SAVE_DEAD = 1;
    public static final int DEAD = 10;

    private static final int MOST_PLACES = 3000;
    private static final int MOST_RUNS = 50;
    private static final int MOST_UNDONE = 6;
    private static final int SLOTS = 2;
    private static final int LAST_CODE = 2;
    private static final int LAST_VALUE = 9;
    private static final int LAST_PATTERN = 999999999;

    private static final int GIVING = 0, ADDING = 1, REVIVING = 2;

    private State now = new State();
    /** What an edit builds. It takes the place of now only when the edit is accepted, so an error changes nothing. */
    private State next = new State();
    /** For edits that need a row in between; its settings mean nothing. */
    private final State aside = new State();
    /** All its objects are there from the beginning, and go round with now and next: no call makes one. */
    private final State[] history = new State[MOST_UNDONE];
    private int recorded = 0;
    private final State[] slots = new State[SLOTS];
    private final boolean[] slotUsed = new boolean[SLOTS];
    private final Pad pad = new Pad();

    public DeadRuns() {
        for (int i = 0; i < MOST_UNDONE; i++) {
            history[i] = new State();
        }
        for (int i = 0; i < SLOTS; i++) {
            slots[i] = new State();
        }
    }

    // ---- edits

    public int set(int setting, int value) {
        if (!isWithin(setting, CODE, SAVE_DEAD) || !isWithin(value, 0, setting == CODE ? LAST_CODE : 1)) {
            return BAD_VALUE;
        }
        next.becomeCopyOf(now);
        if (setting == CODE) {
            next.lengthCode = value;
            return accepted(now.lengthCode);
        }
        next.saveDead = value;
        return accepted(now.saveDead);
    }

    public int insert(int at, int sign, int many) {
        if (!isWithin(at, 0, now.places)) {
            return NO_SUCH;
        }
        if (!isWithin(sign, 0, DEAD) || !isWithin(many, 1, MOST_PLACES)) {
            return BAD_VALUE;
        }
        next.startLike(now);
        next.appendPiece(now, 0, at);
        next.append(sign, many);
        next.appendPiece(now, at, now.places);
        return accepted(next.places);
    }

    public int erase(int first, int many) {
        if (!isPiece(first, many)) {
            return NO_SUCH;
        }
        if (now.saveDead == 1 && now.alikeIn(first, first + many, DEAD) > 0) {
            return NOT_POSSIBLE;
        }
        next.startLike(now);
        next.appendAllBut(now, first, first + many);
        return accepted(next.places);
    }

    public int write(int first, int many, int value) {
        if (!isPiece(first, many)) {
            return NO_SUCH;
        }
        if (!isWithin(value, 0, LAST_VALUE)) {
            return BAD_VALUE;
        }
        return edited(first, many, GIVING, value);
    }

    public int add(int first, int many, int more) {
        if (!isPiece(first, many)) {
            return NO_SUCH;
        }
        if (!isWithin(more, 1, LAST_VALUE)) {
            return BAD_VALUE;
        }
        return edited(first, many, ADDING, more);
    }

    public int kill(int first, int many) {
        return isPiece(first, many) ? edited(first, many, GIVING, DEAD) : NO_SUCH;
    }

    public int revive(int first, int many) {
        return isPiece(first, many) ? edited(first, many, REVIVING, 0) : NO_SUCH;
    }

    public int turn(int first, int many) {
        if (!isPiece(first, many)) {
            return NO_SUCH;
        }
        int end = first + many;
        next.startLike(now);
        next.appendPiece(now, 0, first);
        if (now.saveDead == 1) {
            aside.startLike(now);
            aside.appendTurned(now, first, end, true);
            next.appendLiveFrom(aside, now, first, end);
        } else {
            next.appendTurned(now, first, end, false);
        }
        next.appendPiece(now, end, now.places);
        return accepted(next.runs);
    }

    public int move(int first, int many, int to) {
        if (!isPiece(first, many)) {
            return NO_SUCH;
        }
        if (!isWithin(to, 0, now.places - many)) {
            return BAD_VALUE;
        }
        aside.startLike(now);
        aside.appendAllBut(now, first, first + many);
        next.startLike(now);
        next.appendPiece(aside, 0, to);
        next.appendPiece(now, first, first + many);
        next.appendPiece(aside, to, aside.places);
        return accepted(next.runs);
    }

    // ---- what there is

    public int sign(int at) {
        return now.signAt(at);
    }

    public int ofRun(int run, int what) {
        if (!isWithin(run, 0, now.runs - 1)) {
            return NO_SUCH;
        }
        switch (what) {
            case 0:
                return now.signOf(run);
            case 1:
                return now.firstOf(run);
            case 2:
                return now.lengthOf(run);
            case 3:
                return now.bitsOf(run, now.lengthCode);
            default:
                return BAD_VALUE;
        }
    }

    public int count(int what) {
        switch (what) {
            case 0:
                return now.places;
            case 1:
                return now.runs;
            case 2:
                return now.alikeIn(0, now.places, DEAD);
            case 3:
                return now.allBits(now.lengthCode);
            case 4:
                return now.allCharacters();
            case 5:
                return now.sumOfValues();
            case 6:
                return now.longestRun();
            case 7:
                return pad.used;
            case 8:
                return recorded;
            case 9:
                return now.lengthCode;
            case 10:
                return now.saveDead;
            default:
                return BAD_VALUE;
        }
    }

    public int howMany(int first, int many, int sign) {
        if (!isPiece(first, many)) {
            return NO_SUCH;
        }
        return isWithin(sign, 0, DEAD) ? now.alikeIn(first, first + many, sign) : BAD_VALUE;
    }

    public int bit(int at) {
        return now.bitAt(at);
    }

    public int character(int at) {
        return now.characterAt(at);
    }

    // ---- what if; nothing changes

    public int size(int code) {
        return isWithin(code, 0, LAST_CODE) ? now.allBits(code) : BAD_VALUE;
    }

    public int bestCode() {
        int best = 0;
        for (int code = 1; code <= LAST_CODE; code++) {
            if (now.allBits(code) < now.allBits(best)) {
                best = code;
            }
        }
        return best;
    }

    public int longestLive(int what) {
        return isWithin(what, 0, 1) ? now.longestLiveStretch(what == 1) : BAD_VALUE;
    }

    public int find(int from, int pattern) {
        if (from < 0 || !isWithin(pattern, 1, LAST_PATTERN)) {
            return BAD_VALUE;
        }
        return now.firstMatch(from, pattern);
    }

    public int bestWrite(int what) {
        if (!isWithin(what, 0, 2)) {
            return BAD_VALUE;
        }
        int bestRun = NONE;
        int bestValue = NONE;
        int most = 0;
        for (int run = 0; run < now.runs; run++) {
            for (int value = 0; value <= LAST_VALUE; value++) {
                int saved = now.savedByWriting(run, value);
                if (saved > most) {
                    bestRun = run;
                    bestValue = value;
                    most = saved;
                }
            }
        }
        if (most == 0) {
            return NONE;
        }
        return what == 0 ? bestRun : what == 1 ? bestValue : most;
    }

    public int unlikeMirror() {
        return now.unlikeTurned();
    }

    // ---- texts

    public int put(long characters) {
        int many = Pad.charactersIn(characters);
        if (many < 1) {
            return BAD_VALUE;
        }
        return pad.tookIn(characters, many) ? pad.used : TOO_MANY;
    }

    public int wipe() {
        int before = pad.used;
        pad.used = 0;
        return before;
    }

    public int fault() {
        // The row that is read on the way is thrown away: next is written anew by each edit.
        next.startLike(now);
        return pad.readInto(next);
    }

    public int load() {
        next.startLike(now);
        if (pad.readInto(next) != NONE) {
            return BAD_TEXT;
        }
        int answer = accepted(next.runs);
        if (answer != TOO_MANY) {
            pad.used = 0;
        }
        return answer;
    }

    // ---- undo, saving

    public int undo() {
        if (!isWithin(recorded, 1, MOST_UNDONE)) {
            return NOT_POSSIBLE;
        }
        recorded--;
        State undone = now;
        now = history[recorded];
        history[recorded] = undone;
        return recorded;
    }

    public int save(int slot) {
        if (!isWithin(slot, 0, SLOTS - 1)) {
            return BAD_VALUE;
        }
        slots[slot].becomeCopyOf(now);
        slotUsed[slot] = true;
        return now.places;
    }

    public int restore(int slot) {
        if (!isWithin(slot, 0, SLOTS - 1)) {
            return BAD_VALUE;
        }
        if (!slotUsed[slot]) {
            return NOT_POSSIBLE;
        }
        next.becomeCopyOf(slots[slot]);
        return accepted(next.places);
    }

    // ---- what the methods above share

    private static boolean isWithin(int number, int least, int most) {
        return number >= least && number <= most;
    }

    private boolean isPiece(int first, int many) {
        // The end is not added up here, as first + many may be above every int.
        return first >= 0 && many >= 1 && many <= now.places - first;
    }

    private int edited(int first, int many, int edit, int number) {
        next.startLike(now);
        int changed = next.appendEdited(now, first, first + many, edit, number);
        return accepted(changed);
    }

    /** Makes next the state that there is, unless it is too large; the answer is passed through. */
    private int accepted(int answer) {
        if (next.overfull) {
            return TOO_MANY;
        }
        if (recorded >= MOST_UNDONE) {
            dropOldest();
        }
        State spare = history[recorded];
        history[recorded] = now;
        now = next;
        next = spare;
        recorded++;
        return answer;
    }

    private void dropOldest() {
        State oldest = history[0];
        for (int i = 1; i < MOST_UNDONE; i++) {
            history[i - 1] = history[i];
        }
        history[MOST_UNDONE - 1] = oldest;
        recorded = MOST_UNDONE - 1;
    }

    /** A row with the settings: all that undo and the slots bring back. */
    private static final class State {
        final int[] signs = new int[MOST_RUNS];
        final int[] lengths = new int[MOST_RUNS];
        int runs = 0;
        int places = 0;
        /** Set when more was appended than a row may have; the row then means nothing. */
        boolean overfull = false;
        int lengthCode = 0;
        int saveDead = 1;

        // -- how a row is built: from its beginning to its end, so that only the last run can be joined

        void startLike(State other) {
            runs = 0;
            places = 0;
            overfull = false;
            lengthCode = other.lengthCode;
            saveDead = other.saveDead;
        }

        void becomeCopyOf(State other) {
            startLike(other);
            appendPiece(other, 0, other.places);
        }

        void append(int sign, int many) {
            if (many < 1 || overfull) {
                return;
            }
            boolean joins = runs > 0 && signs[runs - 1] == sign;
            if (many > MOST_PLACES - places || (!joins && runs >= MOST_RUNS)) {
                overfull = true;
                return;
            }
            if (joins) {
                lengths[runs - 1] += many;
            } else {
                signs[runs] = sign;
                lengths[runs] = many;
                runs++;
            }
            places += many;
        }

        void appendPiece(State from, int first, int end) {
            int start = 0;
            for (int run = 0; run < from.runs; run++) {
                append(from.signs[run], shared(start, start + from.lengths[run], first, end));
                start += from.lengths[run];
            }
        }

        void appendAllBut(State from, int first, int end) {
            appendPiece(from, 0, first);
            appendPiece(from, end, from.places);
        }

        void appendTurned(State from, int first, int end, boolean onlyLive) {
            int start = from.places;
            for (int run = from.runs - 1; run >= 0; run--) {
                start -= from.lengths[run];
                if (!onlyLive || from.signs[run] != DEAD) {
                    append(from.signs[run], shared(start, start + from.lengths[run], first, end));
                }
            }
        }

        /** Appends a piece with its dead signs as they are, and the signs of live, in their order, on its live places. */
        void appendLiveFrom(State live, State from, int first, int end) {
            int start = 0;
            int taken = 0;
            for (int run = 0; run < from.runs; run++) {
                int many = shared(start, start + from.lengths[run], first, end);
                if (from.signs[run] == DEAD) {
                    append(DEAD, many);
                } else {
                    appendPiece(live, taken, taken + many);
                    taken += many;
                }
                start += from.lengths[run];
            }
        }

        /** Appends a whole row, one piece of it edited; returns how many signs are other ones then. */
        int appendEdited(State from, int first, int end, int edit, int number) {
            int start = 0;
            int changed = 0;
            for (int run = 0; run < from.runs; run++) {
                int sign = from.signs[run];
                int stop = start + from.lengths[run];
                int then = signAfter(edit, sign, number);
                int inside = shared(start, stop, first, end);
                append(sign, shared(start, stop, 0, first));
                append(then, inside);
                append(sign, shared(start, stop, end, from.places));
                changed += then == sign ? 0 : inside;
                start = stop;
            }
            return changed;
        }

        private static int signAfter(int edit, int sign, int number) {
            // Only reviving touches a dead sign, and it touches no other: what is dead needs no killing.
            if ((edit == REVIVING) != (sign == DEAD)) {
                return sign;
            }
            return edit == ADDING ? (sign + number) % 10 : number;
        }

        /** How many places two stretches, each told by its first place and its end, have in common. */
        private static int shared(int start, int stop, int first, int end) {
            return Math.max(0, Math.min(stop, end) - Math.max(start, first));
        }

        // -- what a row tells

        int signOf(int run) {
            return run >= 0 && run < runs ? signs[run] : NO_SUCH;
        }

        int lengthOf(int run) {
            return run >= 0 && run < runs ? lengths[run] : NO_SUCH;
        }

        int bitsOf(int run, int code) {
            return run >= 0 && run < runs ? Codes.bitsOfRun(code, signs[run], lengths[run]) : NO_SUCH;
        }

        int firstOf(int run) {
            int first = 0;
            for (int i = 0; i < run && i < runs; i++) {
                first += lengths[i];
            }
            return first;
        }

        int signAt(int at) {
            int end = 0;
            for (int run = 0; run < runs && at >= 0; run++) {
                end += lengths[run];
                if (at < end) {
                    return signs[run];
                }
            }
            return NO_SUCH;
        }

        int alikeIn(int first, int end, int sign) {
            int start = 0;
            int alike = 0;
            for (int run = 0; run < runs; run++) {
                if (signs[run] == sign) {
                    alike += shared(start, start + lengths[run], first, end);
                }
                start += lengths[run];
            }
            return alike;
        }

        int sumOfValues() {
            int sum = 0;
            for (int run = 0; run < runs; run++) {
                sum += signs[run] == DEAD ? 0 : signs[run] * lengths[run];
            }
            return sum;
        }

        int longestRun() {
            int longest = 0;
            for (int run = 0; run < runs; run++) {
                longest = Math.max(longest, lengths[run]);
            }
            return longest;
        }

        int allBits(int code) {
            int bits = 0;
            for (int run = 0; run < runs; run++) {
                bits += Codes.bitsOfRun(code, signs[run], lengths[run]);
            }
            return bits;
        }

        int bitAt(int at) {
            int rest = at;
            for (int run = 0; run < runs && rest >= 0; run++) {
                int bits = Codes.bitsOfRun(lengthCode, signs[run], lengths[run]);
                if (rest < bits) {
                    return Codes.bitOfRun(lengthCode, signs[run], lengths[run], rest);
                }
                rest -= bits;
            }
            return NO_SUCH;
        }

        int allCharacters() {
            int characters = Math.max(0, runs - 1);
            for (int run = 0; run < runs; run++) {
                characters += Texts.charactersOfRun(lengths[run]);
            }
            return characters;
        }

        int characterAt(int at) {
            int rest = at;
            for (int run = 0; run < runs && rest >= 0; run++) {
                int characters = Texts.charactersOfRun(lengths[run]);
                if (rest < characters) {
                    return Texts.characterOfRun(signs[run], lengths[run], rest);
                }
                if (rest == characters && run < runs - 1) {
                    return ';';
                }
                rest -= characters + 1;
            }
            return NO_SUCH;
        }

        int longestLiveStretch(boolean itsLength) {
            int start = 0;
            int liveSince = 0;
            int bestFirst = 0;
            int longest = 0;
            for (int run = 0; run < runs; run++) {
                start += lengths[run];
                if (signs[run] == DEAD) {
                    liveSince = start;
                } else if (start - liveSince > longest) {
                    bestFirst = liveSince;
                    longest = start - liveSince;
                }
            }
            if (longest == 0) {
                return NONE;
            }
            return itsLength ? longest : bestFirst;
        }

        /** Slides over the row with the latest signs as groups of 4 bits: a dead sign's group is none of a digit. */
        int firstMatch(int from, int pattern) {
            int digits = Texts.digitsOf(pattern);
            long wanted = Texts.inGroupsOf4Bits(pattern);
            long mask = (1L << (4 * digits)) - 1;
            long latest = -1;
            int start = 0;
            for (int run = 0; run < runs; run++) {
                int first = Math.max(start, from);
                start += lengths[run];
                // Behind as many alike signs as the pattern has digits, one more of them changes nothing.
                int looked = Math.min(start - first, digits);
                for (int i = 0; i < looked; i++) {
                    latest = (latest << 4) | signs[run];
                    if ((latest & mask) == wanted) {
                        return first + i + 1 - digits;
                    }
                }
            }
            return NONE;
        }

        /** Only neighbours that are joined save bits, as every value takes 4 bits. */
        int savedByWriting(int run, int value) {
            if (run < 0 || run >= runs || signs[run] == DEAD) {
                return 0;
            }
            int bits = bitsOf(run, lengthCode);
            int joined = lengths[run];
            if (run > 0 && signs[run - 1] == value) {
                bits += bitsOf(run - 1, lengthCode);
                joined += lengths[run - 1];
            }
            if (run < runs - 1 && signs[run + 1] == value) {
                bits += bitsOf(run + 1, lengthCode);
                joined += lengths[run + 1];
            }
            return bits - Codes.bitsOfRun(lengthCode, value, joined);
        }

        /** A run's places are compared with the piece that is its image in the mirror. */
        int unlikeTurned() {
            int start = 0;
            int unlike = 0;
            for (int run = 0; run < runs; run++) {
                int stop = start + lengths[run];
                unlike += lengths[run] - alikeIn(places - stop, places - start, signs[run]);
                start = stop;
            }
            return unlike;
        }
    }

    /** A run as bits. */
    private static final class Codes {
        private static final int PLAIN = 0, BY_WIDTH = 1;
        private static final int PLAIN_BITS = 12;
        private static final int MOST_WIDTH = 31;

        private Codes() {
        }

        static int bitsOfRun(int code, int sign, int length) {
            return bitsOfSign(sign) + bitsOfLength(code, length);
        }

        static int bitOfRun(int code, int sign, int length, int at) {
            int ofSign = bitsOfSign(sign);
            if (at >= ofSign) {
                return bitOfLength(code, length, at - ofSign);
            }
            if (at == 0) {
                return sign == DEAD ? 1 : 0;
            }
            return bitOfNumber(sign, ofSign - 1, at - 1);
        }

        private static int bitsOfSign(int sign) {
            return sign == DEAD ? 1 : 5;
        }

        private static int bitsOfLength(int code, int length) {
            if (code == PLAIN) {
                return PLAIN_BITS;
            }
            int width = widthOf(length);
            if (code == BY_WIDTH) {
                return width - 1 + width;
            }
            int widthOfWidth = widthOf(width);
            return widthOfWidth - 1 + widthOfWidth + width - 1;
        }

        private static int bitOfLength(int code, int length, int at) {
            if (code == PLAIN) {
                return bitOfNumber(length, PLAIN_BITS, at);
            }
            int width = widthOf(length);
            if (code == BY_WIDTH) {
                return at < width - 1 ? 0 : bitOfNumber(length, width, at - (width - 1));
            }
            int widthOfWidth = widthOf(width);
            int behindZeros = at - (widthOfWidth - 1);
            if (behindZeros < 0) {
                return 0;
            }
            if (behindZeros < widthOfWidth) {
                return bitOfNumber(width, widthOfWidth, behindZeros);
            }
            // The length's own first bit is left out, so one place is skipped.
            return bitOfNumber(length, width, behindZeros - widthOfWidth + 1);
        }

        private static int bitOfNumber(int number, int width, int at) {
            return (number >> (width - 1 - at)) & 1;
        }

        private static int widthOf(int number) {
            int width = 1;
            for (int i = 1; i < MOST_WIDTH && (number >> i) > 0; i++) {
                width++;
            }
            return width;
        }
    }

    /** A run as characters. */
    private static final class Texts {
        private static final int MOST_DIGITS = 10;

        private Texts() {
        }

        static int charactersOfRun(int length) {
            return length == 1 ? 1 : 2 + digitsOf(length);
        }

        static int characterOfRun(int sign, int length, int at) {
            if (at == 0) {
                return sign == DEAD ? 'x' : '0' + sign;
            }
            if (at == 1) {
                return '*';
            }
            int number = length;
            for (int behind = digitsOf(length) + 1 - at; behind > 0; behind--) {
                number /= 10;
            }
            return '0' + number % 10;
        }

        static int digitsOf(int number) {
            int digits = 1;
            int rest = number / 10;
            for (int i = 1; i < MOST_DIGITS && rest > 0; i++) {
                rest /= 10;
                digits++;
            }
            return digits;
        }

        static long inGroupsOf4Bits(int number) {
            long groups = 0;
            int rest = number;
            for (int i = 0; i < MOST_DIGITS && rest > 0; i++) {
                groups |= (long) (rest % 10) << (4 * i);
                rest /= 10;
            }
            return groups;
        }
    }

    /** The text that a row is read from. */
    private static final class Pad {
        private static final int MOST_CHARACTERS = 80;
        private static final int CHARACTERS_IN_LONG = 8;
        private static final int FIRST_CODE = 33, LAST_CODE_OF_ALL = 126;
        /** What has been read of a run; a digit can belong to a number only from NUMBER_DUE on. */
        private static final int SIGN_DUE = 0, SIGN_READ = 1, NUMBER_DUE = 2, NUMBER_READ = 3;

        final int[] codes = new int[MOST_CHARACTERS];
        int used = 0;

        /** How many characters a number holds, 0 if it is no such number. */
        static int charactersIn(long packed) {
            long rest = packed;
            int many = 0;
            for (int i = 0; i < CHARACTERS_IN_LONG && (rest & 255) != 0; i++) {
                long code = rest & 255;
                if (code < FIRST_CODE || code > LAST_CODE_OF_ALL) {
                    return 0;
                }
                rest >>>= 8;
                many++;
            }
            return rest == 0 ? many : 0;
        }

        boolean tookIn(long packed, int many) {
            if (many > MOST_CHARACTERS - used) {
                return false;
            }
            for (int i = many - 1; i >= 0; i--) {
                codes[used] = (int) ((packed >>> (8 * i)) & 255);
                used++;
            }
            return true;
        }

        /** Appends the runs of the text to a row as far as they go; returns the fault, or NONE. */
        int readInto(State row) {
            int step = SIGN_DUE;
            int sign = 0;
            int number = 0;
            for (int at = 0; at < used; at++) {
                int code = codes[at];
                if (step == SIGN_DUE && (code == 'x' || isDigit(code))) {
                    sign = code == 'x' ? DEAD : code - '0';
                    number = 1;
                    step = SIGN_READ;
                } else if (code == '*' && step == SIGN_READ) {
                    number = 0;
                    step = NUMBER_DUE;
                } else if (code == ';' && mayEnd(step)) {
                    row.append(sign, number);
                    step = SIGN_DUE;
                } else if (step >= NUMBER_DUE && continuesNumber(number, code)) {
                    number = number * 10 + code - '0';
                    step = NUMBER_READ;
                } else {
                    return at;
                }
            }
            if (!mayEnd(step)) {
                return used;
            }
            row.append(sign, number);
            return NONE;
        }

        private static boolean mayEnd(int step) {
            return step == SIGN_READ || step == NUMBER_READ;
        }

        private static boolean isDigit(int code) {
            return code >= '0' && code <= '9';
        }

        /** A 0 is left out in front by asking that the number is at least 1 with each digit. */
        private static boolean continuesNumber(int number, int code) {
            return isDigit(code) && isWithin(number * 10 + code - '0', 1, MOST_PLACES);
        }
    }
}
