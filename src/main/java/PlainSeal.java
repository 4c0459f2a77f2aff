/**
 * The parts that a seal on a message is made of: fields and bodies made plain in two ways, tags,
 * numbers in letters, digests, and powers of great numbers by what is left.
 */
public final class PlainSeal {
    public static final int REFUSED = -1, NONE = -2, FULL = -3;

    private static final int MOST_BYTES = 2000;
    private static final int BYTES_OF_A_FEED = 20;

    private static final int TAB = 9;
    private static final int NEWLINE = 10;
    private static final int BLANK = 32;

    private final Bytes tape;
    private final Bytes out;
    private final Mail mail;
    private final TagList tagList;
    private final Sha256 sha256;
    private final Modular modular;

    public PlainSeal() {
        tape = new Bytes();
        out = new Bytes();
        mail = new Mail();
        tagList = new TagList();
        sha256 = new Sha256();
        modular = new Modular();
    }

    public int feed(int a, int b, int c, int d, int e) {
        if (tape.size() + BYTES_OF_A_FEED > MOST_BYTES) {
            return FULL;
        }
        tape.addWord(a);
        tape.addWord(b);
        tape.addWord(c);
        tape.addWord(d);
        tape.addWord(e);
        return tape.size();
    }

    public int end(int n) {
        if (n < 0 || n > tape.size()) {
            return REFUSED;
        }
        tape.cutTo(n);
        return n;
    }

    public int message() {
        int answer = mail.read(tape);
        tape.clear();
        return answer;
    }

    public int plainBody(boolean relaxed) {
        if (mail.isMissing()) {
            return NONE;
        }
        mail.writeBody(relaxed, out);
        return out.size();
    }

    public int plainField(int k, boolean relaxed) {
        if (!mail.hasField(k)) {
            return NONE;
        }
        if (relaxed) {
            mail.writeRelaxedField(k, out);
        } else {
            mail.writeSimpleField(k, out);
        }
        return out.size();
    }

    public int named() {
        int answer = mail.isMissing() ? NONE : mail.countNamed(tape);
        tape.clear();
        return answer;
    }

    public int tags() {
        int answer = tagList.read(tape);
        tape.clear();
        return answer;
    }

    public int tag() {
        int answer = tagList.writeValue(tape, out);
        tape.clear();
        return answer;
    }

    public int decode(int n) {
        if (n < 0 || n > SixBits.MOST_DECODED) {
            return REFUSED;
        }
        int answer = NONE;
        if (SixBits.areOf(n, tape)) {
            SixBits.write(n, tape, out);
            answer = n;
        }
        tape.clear();
        return answer;
    }

    public int digest() {
        sha256.write(tape, out);
        tape.clear();
        return out.size();
    }

    public int power() {
        int answer = REFUSED;
        if (modular.canTake(tape)) {
            modular.take(tape);
            modular.raise();
            modular.write(out);
            answer = out.size();
        }
        tape.clear();
        return answer;
    }

    public int octet(int k) {
        return k == -1 ? out.size() : out.at(k);
    }

    private static boolean isWhite(int b) {
        return b == BLANK || b == TAB;
    }

    private static boolean isSmallLetter(int b) {
        return b >= 'a' && b <= 'z';
    }

    private static boolean isGreatLetter(int b) {
        return b >= 'A' && b <= 'Z';
    }

    private static boolean isDigit(int b) {
        return b >= '0' && b <= '9';
    }

    private static int small(int b) {
        return isGreatLetter(b) ? b - 'A' + 'a' : b;
    }

    /** A row of at most 2000 bytes, made once and used again by every call. */
    private static final class Bytes {
        private final byte[] held;
        private int size;

        Bytes() {
            held = new byte[MOST_BYTES];
            size = 0;
        }

        int size() {
            return size;
        }

        /** The byte as 0 to 255, or NONE outside, so that a reader may look one past the end. */
        int at(int k) {
            return k >= 0 && k < size ? held[k] & 255 : NONE;
        }

        void clear() {
            size = 0;
        }

        void cutTo(int n) {
            if (n >= 0 && n < size) {
                size = n;
            }
        }

        void add(int b) {
            if (size < held.length) {
                held[size] = (byte) b;
                size++;
            }
        }

        void addTimes(int b, int times) {
            for (int i = 0; i < times; i++) {
                add(b);
            }
        }

        void addWord(int word) {
            add(word >>> 24);
            add(word >>> 16);
            add(word >>> 8);
            add(word);
        }

        void addPart(Bytes other, int from, int stop) {
            for (int i = from; i < stop; i++) {
                add(other.at(i));
            }
        }

        void become(Bytes other) {
            clear();
            addPart(other, 0, other.size);
        }

        /** Where the byte stands at or behind a place; the size if it does not. */
        int find(int b, int from) {
            for (int i = from; i < size; i++) {
                if (at(i) == b) {
                    return i;
                }
            }
            return size;
        }

        void dropWhiteAndNewlines() {
            int before = size;
            size = 0;
            for (int i = 0; i < before; i++) {
                int b = held[i] & 255;
                if (!isWhite(b) && b != NEWLINE) {
                    add(b);
                }
            }
        }
    }

    /** THE MESSAGE: its bytes and where its fields begin. */
    private static final class Mail {
        private static final int MOST_FIELDS = 20;
        private static final int MOST_NAME = 20;

        private final Bytes text;
        /** Field k goes from place k to place k + 1. */
        private final int[] places;
        private int fields;

        Mail() {
            text = new Bytes();
            places = new int[MOST_FIELDS + 1];
            fields = 0;
        }

        boolean isMissing() {
            return fields == 0;
        }

        boolean hasField(int k) {
            return k >= 0 && k < fields;
        }

        /** Looks before it takes: a refused tape leaves the message before as it was. */
        int read(Bytes tape) {
            int found = countFields(tape);
            if (found == 0) {
                return REFUSED;
            }
            text.become(tape);
            fields = found;
            for (int k = 0; k < found; k++) {
                places[k + 1] = fieldStop(text, places[k]);
            }
            return found;
        }

        /** How many fields a row has; 0 if it is no message. */
        private static int countFields(Bytes row) {
            int place = 0;
            for (int found = 0; found <= MOST_FIELDS; found++) {
                if (fieldsEndAt(row, place)) {
                    return found;
                }
                if (nameLength(row, place) == 0) {
                    return 0;
                }
                place = fieldStop(row, place);
            }
            return 0;
        }

        private static boolean fieldsEndAt(Bytes row, int place) {
            return place >= row.size() || row.at(place) == NEWLINE;
        }

        /** 0 if there is no name with its colon. */
        private static int nameLength(Bytes row, int from) {
            int length = 0;
            while (length < MOST_NAME && isOfName(row.at(from + length))) {
                length++;
            }
            return row.at(from + length) == ':' ? length : 0;
        }

        private static boolean isOfName(int b) {
            return isSmallLetter(b) || isGreatLetter(b) || isDigit(b) || b == '-';
        }

        /** A line that begins with white belongs to the field before it. */
        private static int fieldStop(Bytes row, int from) {
            for (int i = from; i < row.size(); i++) {
                if (row.at(i) == NEWLINE && !isWhite(row.at(i + 1))) {
                    return i + 1;
                }
            }
            return row.size();
        }

        int countNamed(Bytes name) {
            int alike = 0;
            for (int k = 0; k < fields; k++) {
                if (isNamed(places[k], name)) {
                    alike++;
                }
            }
            return alike;
        }

        private boolean isNamed(int from, Bytes name) {
            if (nameLength(text, from) != name.size()) {
                return false;
            }
            for (int i = 0; i < name.size(); i++) {
                if (small(text.at(from + i)) != small(name.at(i))) {
                    return false;
                }
            }
            return true;
        }

        /**
         * Newlines and white wait until a byte behind them shows that they are not at an end: what
         * still waits when the body is over is never written.
         */
        void writeBody(boolean relaxed, Bytes out) {
            int newlines = 0;
            boolean white = false;
            out.clear();
            for (int i = places[fields] + 1; i < text.size(); i++) {
                int b = text.at(i);
                if (b == NEWLINE) {
                    newlines++;
                    white = false;
                } else if (relaxed && isWhite(b)) {
                    white = true;
                } else {
                    out.addTimes(NEWLINE, newlines);
                    out.addTimes(BLANK, white ? 1 : 0);
                    out.add(b);
                    newlines = 0;
                    white = false;
                }
            }
            if (!relaxed || out.size() > 0) {
                out.add(NEWLINE);
            }
        }

        void writeSimpleField(int k, Bytes out) {
            int stop = places[k + 1];
            boolean hasNewline = text.at(stop - 1) == NEWLINE;
            out.clear();
            out.addPart(text, places[k], hasNewline ? stop - 1 : stop);
        }

        void writeRelaxedField(int k, Bytes out) {
            int colon = places[k] + nameLength(text, places[k]);
            out.clear();
            for (int i = places[k]; i < colon; i++) {
                out.add(small(text.at(i)));
            }
            out.add(':');
            addRelaxedValue(colon + 1, places[k + 1], out);
        }

        private void addRelaxedValue(int from, int stop, Bytes out) {
            int empty = out.size();
            boolean white = false;
            for (int i = from; i < stop; i++) {
                int b = text.at(i);
                if (isWhite(b)) {
                    white = true;
                } else if (b != NEWLINE) {
                    out.addTimes(BLANK, white && out.size() > empty ? 1 : 0);
                    out.add(b);
                    white = false;
                }
            }
        }
    }

    /** The TAGS told last, without white and newlines and without a ; at the end. */
    private static final class TagList {
        private static final int MOST_TAGS = 40;
        private static final int MOST_LETTERS = 8;

        private final Bytes text;

        TagList() {
            text = new Bytes();
        }

        /** Makes the tape itself bare, since it is emptied whatever the answer is. */
        int read(Bytes tape) {
            tape.dropWhiteAndNewlines();
            if (tape.at(tape.size() - 1) == ';') {
                tape.cutTo(tape.size() - 1);
            }
            int found = countTags(tape);
            if (found == 0) {
                return REFUSED;
            }
            text.become(tape);
            return found;
        }

        /** 0 if the row is no tags. */
        private static int countTags(Bytes row) {
            int place = 0;
            for (int found = 1; found <= MOST_TAGS; found++) {
                int length = lettersLength(row, place);
                if (length == 0 || valueOf(row, place, row, place, length) != NONE) {
                    return 0;
                }
                int stop = row.find(';', place);
                if (stop >= row.size()) {
                    return found;
                }
                place = stop + 1;
            }
            return 0;
        }

        /** 0 if there are no letters with their =. */
        private static int lettersLength(Bytes row, int from) {
            int length = 0;
            while (length < MOST_LETTERS && isSmallLetter(row.at(from + length))) {
                length++;
            }
            return row.at(from + length) == '=' ? length : 0;
        }

        /**
         * Where the value begins of the tag, among those of a row that begin before a place, whose
         * letters stand in another row; NONE if there is none.
         */
        private static int valueOf(Bytes row, int before, Bytes name, int from, int length) {
            int place = 0;
            for (int looked = 0; looked < MOST_TAGS && place < before; looked++) {
                if (lettersLength(row, place) == length && isSame(row, place, name, from, length)) {
                    return place + length + 1;
                }
                place = row.find(';', place) + 1;
            }
            return NONE;
        }

        private static boolean isSame(Bytes row, int place, Bytes name, int from, int length) {
            for (int i = 0; i < length; i++) {
                if (row.at(place + i) != name.at(from + i)) {
                    return false;
                }
            }
            return true;
        }

        int writeValue(Bytes name, Bytes out) {
            int from = valueOf(text, text.size(), name, 0, name.size());
            if (from == NONE) {
                return NONE;
            }
            out.clear();
            out.addPart(text, from, text.find(';', from));
            return out.size();
        }
    }

    /** Numbers in letters, six bits each. */
    private static final class SixBits {
        static final int MOST_DECODED = 900;

        static boolean areOf(int n, Bytes row) {
            int letters = lettersFor(n);
            int length = (n + 2) / 3 * 4;
            if (row.size() != length) {
                return false;
            }
            for (int i = 0; i < letters; i++) {
                if (sixBits(row.at(i)) == NONE) {
                    return false;
                }
            }
            for (int i = letters; i < length; i++) {
                if (row.at(i) != '=') {
                    return false;
                }
            }
            return n == 0 || (sixBits(row.at(letters - 1)) & bitsOver(n)) == 0;
        }

        private static int lettersFor(int n) {
            return (n * 8 + 5) / 6;
        }

        /** A mask of the bits of the last letter that belong to no byte. */
        private static int bitsOver(int n) {
            return (1 << (lettersFor(n) * 6 - n * 8)) - 1;
        }

        private static int sixBits(int b) {
            if (isGreatLetter(b)) {
                return b - 'A';
            }
            if (isSmallLetter(b)) {
                return b - 'a' + 26;
            }
            if (isDigit(b)) {
                return b - '0' + 52;
            }
            if (b == '+') {
                return 62;
            }
            return b == '/' ? 63 : NONE;
        }

        static void write(int n, Bytes row, Bytes out) {
            int bits = 0;
            int waiting = 0;
            out.clear();
            for (int i = 0; i < lettersFor(n); i++) {
                bits = bits << 6 | sixBits(row.at(i));
                waiting += 6;
                if (waiting >= 8) {
                    waiting -= 8;
                    out.add(bits >>> waiting);
                }
            }
        }
    }

    /** The digest of FIPS 180-4. */
    private static final class Sha256 {
        private static final int[] FIRST_STATE = {
            0x6a09e667, 0xbb67ae85, 0x3c6ef372, 0xa54ff53a, 0x510e527f, 0x9b05688c, 0x1f83d9ab, 0x5be0cd19
        };
        private static final int[] ROUND_WORDS = {
            0x428a2f98, 0x71374491, 0xb5c0fbcf, 0xe9b5dba5, 0x3956c25b, 0x59f111f1, 0x923f82a4, 0xab1c5ed5,
            0xd807aa98, 0x12835b01, 0x243185be, 0x550c7dc3, 0x72be5d74, 0x80deb1fe, 0x9bdc06a7, 0xc19bf174,
            0xe49b69c1, 0xefbe4786, 0x0fc19dc6, 0x240ca1cc, 0x2de92c6f, 0x4a7484aa, 0x5cb0a9dc, 0x76f988da,
            0x983e5152, 0xa831c66d, 0xb00327c8, 0xbf597fc7, 0xc6e00bf3, 0xd5a79147, 0x06ca6351, 0x14292967,
            0x27b70a85, 0x2e1b2138, 0x4d2c6dfc, 0x53380d13, 0x650a7354, 0x766a0abb, 0x81c2c92e, 0x92722c85,
            0xa2bfe8a1, 0xa81a664b, 0xc24b8b70, 0xc76c51a3, 0xd192e819, 0xd6990624, 0xf40e3585, 0x106aa070,
            0x19a4c116, 0x1e376c08, 0x2748774c, 0x34b0bcb5, 0x391c0cb3, 0x4ed8aa4a, 0x5b9cca4f, 0x682e6ff3,
            0x748f82ee, 0x78a5636f, 0x84c87814, 0x8cc70208, 0x90befffa, 0xa4506ceb, 0xbef9a3f7, 0xc67178f2
        };
        private static final int STATE_WORDS = 8;
        private static final int ROUNDS = 64;
        private static final int BLOCK_BYTES = 64;

        private final int[] state;
        private final int[] mixed;
        private final int[] schedule;

        Sha256() {
            state = new int[STATE_WORDS];
            mixed = new int[STATE_WORDS];
            schedule = new int[ROUNDS];
        }

        void write(Bytes row, Bytes out) {
            // The end mark is one byte and the length eight.
            int blocks = (row.size() + 9 + BLOCK_BYTES - 1) / BLOCK_BYTES;
            System.arraycopy(FIRST_STATE, 0, state, 0, STATE_WORDS);
            for (int block = 0; block < blocks; block++) {
                fillSchedule(row, block * BLOCK_BYTES, block == blocks - 1);
                mixBlock();
            }
            out.clear();
            for (int i = 0; i < STATE_WORDS; i++) {
                out.addWord(state[i]);
            }
        }

        private void fillSchedule(Bytes row, int from, boolean last) {
            for (int i = 0; i < 16; i++) {
                schedule[i] = paddedWord(row, from + 4 * i);
            }
            if (last) {
                schedule[15] = row.size() * 8;
            }
            for (int i = 16; i < ROUNDS; i++) {
                int near = schedule[i - 2];
                int far = schedule[i - 15];
                int nearMix = turned(near, 17) ^ turned(near, 19) ^ near >>> 10;
                int farMix = turned(far, 7) ^ turned(far, 18) ^ far >>> 3;
                schedule[i] = nearMix + schedule[i - 7] + farMix + schedule[i - 16];
            }
        }

        private static int paddedWord(Bytes row, int from) {
            int word = 0;
            for (int i = from; i < from + 4; i++) {
                word = word << 8 | paddedByte(row, i);
            }
            return word;
        }

        private static int paddedByte(Bytes row, int k) {
            if (k < row.size()) {
                return row.at(k);
            }
            return k == row.size() ? 128 : 0;
        }

        private static int turned(int word, int places) {
            return word >>> places | word << 32 - places;
        }

        private void mixBlock() {
            System.arraycopy(state, 0, mixed, 0, STATE_WORDS);
            for (int i = 0; i < ROUNDS; i++) {
                mixRound(ROUND_WORDS[i] + schedule[i]);
            }
            for (int i = 0; i < STATE_WORDS; i++) {
                state[i] += mixed[i];
            }
        }

        private void mixRound(int word) {
            int a = mixed[0];
            int e = mixed[4];
            int choice = e & mixed[5] ^ ~e & mixed[6];
            int majority = a & mixed[1] ^ a & mixed[2] ^ mixed[1] & mixed[2];
            int first = mixed[7] + (turned(e, 6) ^ turned(e, 11) ^ turned(e, 25)) + choice + word;
            int second = (turned(a, 2) ^ turned(a, 13) ^ turned(a, 22)) + majority;
            for (int i = STATE_WORDS - 1; i > 0; i--) {
                mixed[i] = mixed[i - 1];
            }
            mixed[4] += first;
            mixed[0] = first + second;
        }
    }

    /** Powers by the remainder of p; numbers are 32 digits of 16 bits, the lowest first. */
    private static final class Modular {
        private static final int NUMBER_BYTES = 64;
        private static final int DIGITS = 32;
        private static final int DIGIT_BITS = 16;
        private static final int DIGIT_MASK = 0xffff;
        private static final int HIGHEST_BIT = 0x8000;
        /** 65537 is 1 more than 2 multiplied 16 times. */
        private static final int SQUARINGS = 16;

        private final int[] base;
        private final int[] modulus;
        private final int[] rest;
        private final int[] product;

        Modular() {
            base = new int[DIGITS];
            modulus = new int[DIGITS];
            rest = new int[DIGITS];
            product = new int[2 * DIGITS];
        }

        boolean canTake(Bytes row) {
            return row.size() == 2 * NUMBER_BYTES
                && (row.at(NUMBER_BYTES) & 128) != 0
                && (row.at(2 * NUMBER_BYTES - 1) & 1) != 0;
        }

        void take(Bytes row) {
            takeNumber(row, 0, base);
            takeNumber(row, NUMBER_BYTES, modulus);
        }

        private static void takeNumber(Bytes row, int from, int[] number) {
            int lowest = from + NUMBER_BYTES - 1;
            for (int i = 0; i < DIGITS; i++) {
                number[i] = row.at(lowest - 2 * i - 1) << 8 | row.at(lowest - 2 * i);
            }
        }

        void write(Bytes out) {
            out.clear();
            for (int i = DIGITS - 1; i >= 0; i--) {
                out.add(rest[i] >>> 8);
                out.add(rest[i]);
            }
        }

        /** Leaves the power in rest. */
        void raise() {
            bringBaseBelowModulus();
            for (int i = 0; i < SQUARINGS; i++) {
                multiplyRestBy(rest);
                divideProduct();
            }
            multiplyRestBy(base);
            divideProduct();
        }

        private void bringBaseBelowModulus() {
            for (int i = 0; i < DIGITS; i++) {
                product[i] = base[i];
                product[DIGITS + i] = 0;
            }
            divideProduct();
            for (int i = 0; i < DIGITS; i++) {
                base[i] = rest[i];
            }
        }

        private void multiplyRestBy(int[] other) {
            for (int i = 0; i < DIGITS; i++) {
                product[i] = 0;
            }
            for (int i = 0; i < DIGITS; i++) {
                long carry = 0;
                for (int j = 0; j < DIGITS; j++) {
                    carry += product[i + j] + (long) rest[i] * other[j];
                    product[i + j] = (int) (carry & DIGIT_MASK);
                    carry >>= DIGIT_BITS;
                }
                product[i + DIGITS] = (int) carry;
            }
        }

        /**
         * Long division, of which only the rest is kept. The upper half of the product is always
         * below the modulus, so each digit of the quotient fits in 16 bits.
         */
        private void divideProduct() {
            for (int place = DIGITS - 1; place >= 0; place--) {
                takeAway(place, guessedDigit(place));
            }
            for (int i = 0; i < DIGITS; i++) {
                rest[i] = product[i];
            }
        }

        /** Never too small and at most 2 too great, since the modulus has its highest bit. */
        private long guessedDigit(int place) {
            long top = (long) product[place + DIGITS] << DIGIT_BITS | product[place + DIGITS - 1];
            // The bit is there already; set here, it shows that the divisor is never 0.
            long guess = top / (modulus[DIGITS - 1] | HIGHEST_BIT);
            return Math.min(guess, DIGIT_MASK);
        }

        private void takeAway(int place, long digit) {
            long carry = 0;
            for (int i = 0; i < DIGITS; i++) {
                carry += product[place + i] - digit * modulus[i];
                product[place + i] = (int) (carry & DIGIT_MASK);
                carry >>= DIGIT_BITS;
            }
            long top = product[place + DIGITS] + carry;
            for (int given = 0; given < 2 && top < 0; given++) {
                top += giveBack(place);
            }
            product[place + DIGITS] = (int) top;
        }

        /** Adds the modulus once and answers what goes over. */
        private long giveBack(int place) {
            long carry = 0;
            for (int i = 0; i < DIGITS; i++) {
                carry += product[place + i] + modulus[i];
                product[place + i] = (int) (carry & DIGIT_MASK);
                carry >>= DIGIT_BITS;
            }
            return carry;
        }
    }
}
