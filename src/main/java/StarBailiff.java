/** A bailiff for borrowed stars; ../shared/DOC.md says what each call promises. */
public final class StarBailiff {
    public static final int NONE = -1;
    public static final int BAD = -2;
    public static final int REFUSED = -3;
    public static final int NOTHING = -4;

    private static final int MOST_STARS = 8;
    private static final int MOST_ROOFS = 5;
    private static final int MOST_WISHES = 8;
    private static final int SECTORS = 4;
    private static final int MOST_BRIGHTNESS = 9;
    private static final int MOST_DIGIT = 9;
    private static final int MOST_COINS = 99;
    private static final int DEBT_TO_POUND = 10;
    private static final int NIGHTS_TO_FORFEIT = 3;

    private static final int FIRST_CODE = 32;
    private static final int LAST_CODE = 126;
    private static final int MOST_INPUT = 60;
    private static final int MOST_UNDOS = 8;
    // One row more than can be undone: a sky is noted before its change is sure.
    private static final int PAST_ROWS = MOST_UNDOS + 1;

    private static final int FULL = 1;
    private static final int SO_ALREADY = 2;
    private static final int SIGHTED_ALREADY = 3;
    private static final int NOT_SIGHTED = 4;
    private static final int CLAIMED = 5;
    private static final int TOO_FEW_COINS = 6;
    private static final int UNCLAIMED = 7;
    private static final int DEBT_IS_LESS = 8;
    private static final int STAYED = 9;
    private static final int DEBT_IS_SMALL = 10;
    private static final int NO_FREE_WISH = 11;
    private static final int NOT_IMPOUNDED = 12;
    private static final int COMMAND_REFUSED = 13;
    private static final int COMMAND_FAILED = 14;

    private static final Command[] COMMANDS = Command.values();

    private final Sky sky = new Sky();
    private final Sky saved = new Sky();
    private final Past past = new Past();
    private final Refusal refusal = new Refusal();
    private final Words words = new Words();
    private final StringBuilder input = new StringBuilder();
    private final StringBuilder line = new StringBuilder();
    private boolean isSaved;
    private int faultAt = NOTHING;

    public StarBailiff() {
    }

    public int clear() {
        int stars = sky.stars.count;
        sky.empty();
        past.forget();
        return stars;
    }

    public int append(char character) {
        if (!isWithin(character, FIRST_CODE, LAST_CODE) || input.length() >= MOST_INPUT) {
            return BAD;
        }
        input.append(character);
        return input.length();
    }

    public int star(int brightness, int sector) {
        return change(Command.STAR, brightness, sector, 0);
    }

    public int roof(int coins) {
        return change(Command.ROOF, coins, 0, 0);
    }

    public int cloud(int sector, int cloud) {
        return change(Command.CLOUD, sector, cloud, 0);
    }

    public int sight(int roof, int star) {
        return change(Command.SIGHT, roof, star, 0);
    }

    public int claim(int roof, int star) {
        return change(Command.CLAIM, roof, star, 0);
    }

    public int drop(int star) {
        return change(Command.DROP, star, 0, 0);
    }

    public int wish(int roof, int star, int kind) {
        return change(Command.WISH, roof, star, kind);
    }

    public int pay(int roof, int coins) {
        return change(Command.PAY, roof, coins, 0);
    }

    public int pound(int roof) {
        return change(Command.POUND, roof, 0, 0);
    }

    public int redeem(int wish) {
        return change(Command.REDEEM, wish, 0, 0);
    }

    public int stay(int roof, int nights) {
        return change(Command.STAY, roof, nights, 0);
    }

    public int dawn() {
        return change(Command.DAWN, 0, 0, 0);
    }

    public int read() {
        int code = carryOutInput();
        input.setLength(0);
        return code;
    }

    public int fault() {
        return faultAt;
    }

    public int reason(int depth, boolean isDetail) {
        return refusal.told(depth, isDetail);
    }

    public int starOf(int star, int what) {
        if (!sky.stars.has(star)) {
            return NONE;
        }
        switch (what) {
            case 0: return sky.stars.brightness[star];
            case 1: return sky.stars.sector[star];
            case 2: return sky.stars.isSeen(star) ? 1 : 0;
            case 3: return sky.stars.claimant[star];
            case 4: return sky.stars.sightings[star];
            case 5: return sky.wishes.countOn(star);
            default: return BAD;
        }
    }

    public int roofOf(int roof, int what) {
        if (!sky.roofs.has(roof)) {
            return NONE;
        }
        switch (what) {
            case 0: return sky.roofs.coins[roof];
            case 1: return sky.roofs.stay[roof];
            case 2: return sky.wishes.countOf(roof);
            case 3: return Integer.bitCount(sky.wishes.impoundedSetOf(roof));
            case 4: return sky.roofs.granted[roof];
            case 5: return sky.roofs.forfeited[roof];
            case 6: return sky.stars.countClaimedBy(roof);
            case 7: return sky.roofs.sighted[roof];
            case 8: return sky.roofs.sightedSeen[roof];
            default: return BAD;
        }
    }

    public int wishOf(int wish, int what) {
        if (!sky.wishes.has(wish)) {
            return NONE;
        }
        switch (what) {
            case 0: return sky.wishes.roof[wish];
            case 1: return sky.wishes.star[wish];
            case 2: return sky.wishes.kind[wish];
            case 3: return sky.wishes.age[wish];
            case 4: return sky.wishes.impounded[wish];
            case 5: return sky.wishes.isImpounded(wish) ? sky.costToRedeem(wish) : NOTHING;
            default: return BAD;
        }
    }

    public int cloudOf(int sector) {
        return isSector(sector) ? sky.stars.clouds[sector] : NONE;
    }

    public int debt(int roof) {
        return sky.roofs.has(roof) ? sky.roofs.debt[roof] : NONE;
    }

    public int debtAgain(int roof) {
        return sky.roofs.has(roof) ? sky.roofs.levied[roof] - sky.roofs.paid[roof] : NONE;
    }

    public int seen(int sector) {
        return isSector(sector) ? sky.stars.countSeen(sector) : NONE;
    }

    public int seenAgain(int sector) {
        return isSector(sector) ? sky.stars.countSeenByBrightness(sector) : NONE;
    }

    public int levy(int roof, int star) {
        return sky.hasBoth(roof, star) ? sky.levyOn(roof, star) : NONE;
    }

    public int could(int roof) {
        return sky.roofs.has(roof) ? sky.countRedeemable(roof) : NONE;
    }

    public int couldAgain(int roof) {
        return sky.roofs.has(roof) ? sky.countRedeemableByTrying(roof) : NONE;
    }

    public int brightens(int sector) {
        return isSector(sector) ? sky.stars.dawnsUntilAllSeen(sector) : NONE;
    }

    public int cheapest(int roof) {
        return sky.roofs.has(roof) ? sky.cheapestStar(roof) : NONE;
    }

    public int wouldGrant() {
        return sky.countGrantable();
    }

    public int richest(int place) {
        return sky.roofAtPlace(place);
    }

    public int brightest(int place) {
        return sky.stars.starAtPlace(place);
    }

    public int write(int roof) {
        if (!sky.roofs.has(roof)) {
            return NONE;
        }
        line.setLength(0);
        line.append(roof);
        line.append('$');
        line.append(sky.roofs.coins[roof]);
        writeIfAny('-', sky.roofs.debt[roof]);
        writeIfAny('s', sky.roofs.stay[roof]);
        writeIfAny('w', sky.wishes.countOf(roof));
        return line.length();
    }

    public int writeSky(int sector) {
        if (!isSector(sector)) {
            return NONE;
        }
        line.setLength(0);
        for (int star = 0; star < sky.stars.count; star++) {
            if (sky.stars.sector[star] == sector) {
                line.append((char) ((sky.stars.isSeen(star) ? 'A' : 'a') + star));
            }
        }
        writeIfAny('~', sky.stars.clouds[sector]);
        return line.length();
    }

    public int written(int index) {
        return index >= 0 && index < line.length() ? line.charAt(index) : NONE;
    }

    public int isWell() {
        for (int roof = 0; roof < sky.roofs.count; roof++) {
            if (debt(roof) != debtAgain(roof) || could(roof) != couldAgain(roof)) {
                return 0;
            }
        }
        for (int sector = 0; sector < SECTORS; sector++) {
            if (seen(sector) != seenAgain(sector)) {
                return 0;
            }
        }
        return 1;
    }

    public double meanCloud() {
        return (double) sum(sky.stars.clouds, SECTORS) / (double) SECTORS;
    }

    public float poundShare() {
        if (sky.wishes.count == 0) {
            return 0.0f;
        }
        return (float) sky.wishes.countImpounded() / (float) sky.wishes.count;
    }

    public int account(int what) {
        switch (what) {
            case 0: return sky.stars.count;
            case 1: return sky.roofs.count;
            case 2: return sky.wishes.count;
            case 3: return sky.wishes.countImpounded();
            case 4: return sky.stars.countClaimed();
            case 5: return sky.nights;
            case 6: return sum(sky.stars.sightings, sky.stars.count);
            case 7: return sky.exempt;
            case 8: return sum(sky.roofs.levied, sky.roofs.count);
            case 9: return sum(sky.roofs.paid, sky.roofs.count);
            case 10: return sum(sky.roofs.granted, sky.roofs.count);
            case 11: return sum(sky.roofs.forfeited, sky.roofs.count);
            case 12: return input.length();
            case 13: return past.count;
            default: return BAD;
        }
    }

    public int undo() {
        return past.takeBack(sky);
    }

    public int save() {
        saved.copyFrom(sky);
        isSaved = true;
        return sky.stars.count;
    }

    public int restore() {
        if (!isSaved) {
            return NOTHING;
        }
        sky.copyFrom(saved);
        past.forget();
        return sky.stars.count;
    }

    private int change(Command command, int first, int second, int third) {
        past.note(sky);
        int code = carryOut(command, first, second, third);
        if (code >= 0) {
            past.keepNoted();
        }
        return code;
    }

    private int carryOut(Command command, int first, int second, int third) {
        switch (command) {
            case STAR: return sky.addStar(first, second, refusal);
            case ROOF: return sky.addRoof(first, refusal);
            case CLOUD: return sky.tellCloud(first, second, refusal);
            case SIGHT: return sky.sightStar(first, second, refusal);
            case CLAIM: return sky.claimStar(first, second, refusal);
            case DROP: return sky.dropClaim(first, refusal);
            case WISH: return sky.addWish(first, second, third, refusal);
            case PAY: return sky.payDebt(first, second, refusal);
            case POUND: return sky.poundWishes(first, refusal);
            case REDEEM: return sky.redeemWish(first, refusal);
            case STAY: return sky.giveStay(first, second, refusal);
            case DAWN: return sky.passNight();
            default: return BAD;
        }
    }

    private int carryOutInput() {
        int commands = words.countCommands(input);
        if (commands < 0) {
            faultAt = words.end;
            return BAD;
        }
        past.note(sky);
        int start = 0;
        for (int number = 0; number < commands; number++) {
            words.findCommand(input, start);
            int code = carryOut(words.command, words.numbers[0], words.numbers[1], words.numbers[2]);
            if (code < 0) {
                sky.copyFrom(past.noted());
                return refusal.ofCommand(code, number);
            }
            start = words.end + 1;
        }
        past.keepNoted();
        return commands;
    }

    private void writeIfAny(char sign, int number) {
        if (number > 0) {
            line.append(sign);
            line.append(number);
        }
    }

    private static boolean isWithin(int number, int least, int most) {
        return number >= least && number <= most;
    }

    private static boolean isSector(int sector) {
        return isWithin(sector, 0, SECTORS - 1);
    }

    private static int sum(int[] row, int count) {
        int sum = 0;
        for (int i = 0; i < count && i < row.length; i++) {
            sum += row[i];
        }
        return sum;
    }

    private static int countAlike(int[] row, int count, int number) {
        int alike = 0;
        for (int i = 0; i < count && i < row.length; i++) {
            if (row[i] == number) {
                alike++;
            }
        }
        return alike;
    }

    private static void copyRow(int[] from, int[] to) {
        System.arraycopy(from, 0, to, 0, Math.min(from.length, to.length));
    }

    /** The commands of texts and their forms, where D is a digit, L a letter of a star and N a number. */
    private enum Command {
        STAR("star D D"),
        ROOF("roof N"),
        CLOUD("cloud D D"),
        SIGHT("sight DL"),
        CLAIM("claim DL"),
        DROP("drop L"),
        WISH("wish DLD"),
        PAY("pay D N"),
        POUND("pound D"),
        REDEEM("redeem D"),
        STAY("stay D D"),
        DAWN("dawn");

        final String form;

        Command(String form) {
            this.form = form;
        }
    }

    /** Reads the commands of a text. */
    private static final class Words {
        Command command = Command.DAWN;
        /** Where the command that was looked for ends, or where the text has its fault. */
        int end;
        final int[] numbers = new int[3];

        int countCommands(StringBuilder text) {
            int start = 0;
            for (int commands = 1; commands <= MOST_INPUT; commands++) {
                if (!findCommand(text, start)) {
                    return BAD;
                }
                if (end >= text.length()) {
                    return commands;
                }
                if (text.charAt(end) != ';') {
                    return BAD;
                }
                start = end + 1;
            }
            return BAD;
        }

        boolean findCommand(StringBuilder text, int start) {
            end = start;
            for (int i = 0; i < COMMANDS.length; i++) {
                if (follows(COMMANDS[i].form, text, start)) {
                    command = COMMANDS[i];
                    return true;
                }
            }
            return false;
        }

        // A form that fails moves the end forward alone: the fault is where the last form fails.
        private boolean follows(String form, StringBuilder text, int start) {
            int at = start;
            int told = 0;
            for (int i = 0; i < form.length(); i++) {
                char sign = form.charAt(i);
                if (at >= text.length() || !fits(text.charAt(at), sign)) {
                    end = Math.max(end, at);
                    return false;
                }
                if (isPlace(sign) && told < numbers.length) {
                    numbers[told] = text.charAt(at) - (sign == 'L' ? 'a' : '0');
                    if (sign == 'N' && at + 1 < text.length() && fits(text.charAt(at + 1), 'D')) {
                        at++;
                        numbers[told] = 10 * numbers[told] + text.charAt(at) - '0';
                    }
                    told++;
                }
                at++;
            }
            end = at;
            return true;
        }

        private static boolean isPlace(char sign) {
            return sign == 'D' || sign == 'N' || sign == 'L';
        }

        private static boolean fits(char character, char sign) {
            if (sign == 'L') {
                return isWithin(character, 'a', 'a' + MOST_STARS - 1);
            }
            return isPlace(sign) ? isWithin(character, '0', '9') : character == sign;
        }
    }

    /** Why something was refused last. */
    private static final class Refusal {
        private int reason = NOTHING;
        private int detail = NOTHING;
        private int reasonBehind = NOTHING;
        private int detailBehind = NOTHING;

        int because(int newReason, int newDetail) {
            reason = newReason;
            detail = newDetail;
            reasonBehind = NOTHING;
            detailBehind = NOTHING;
            return REFUSED;
        }

        int ofCommand(int code, int number) {
            if (code != REFUSED) {
                return because(COMMAND_FAILED, number);
            }
            reasonBehind = reason;
            detailBehind = detail;
            reason = COMMAND_REFUSED;
            detail = number;
            return REFUSED;
        }

        int told(int depth, boolean isDetail) {
            switch (depth) {
                case 0: return isDetail ? detail : reason;
                case 1: return isDetail ? detailBehind : reasonBehind;
                default: return BAD;
            }
        }
    }

    /** The skies before the latest changes, in a ring. */
    private static final class Past {
        int count;
        private int next;
        private final Sky[] skies = new Sky[PAST_ROWS];

        Past() {
            for (int i = 0; i < PAST_ROWS; i++) {
                skies[i] = new Sky();
            }
        }

        void note(Sky sky) {
            skies[next].copyFrom(sky);
        }

        Sky noted() {
            return skies[next];
        }

        void keepNoted() {
            next = (next + 1) % PAST_ROWS;
            count = Math.min(count + 1, MOST_UNDOS);
        }

        void forget() {
            count = 0;
        }

        int takeBack(Sky sky) {
            if (count == 0) {
                return NOTHING;
            }
            next = (next + PAST_ROWS - 1) % PAST_ROWS;
            count--;
            sky.copyFrom(skies[next]);
            return count;
        }
    }

    /** The stars, and the clouds that hide them. */
    private static final class Stars {
        int count;
        final int[] brightness = new int[MOST_STARS];
        final int[] sector = new int[MOST_STARS];
        /** The roof that claims each star, NOTHING if none does. */
        final int[] claimant = new int[MOST_STARS];
        final int[] sightings = new int[MOST_STARS];
        final int[] clouds = new int[SECTORS];

        void empty() {
            count = 0;
            for (int i = 0; i < SECTORS; i++) {
                clouds[i] = 0;
            }
        }

        void copyFrom(Stars other) {
            count = other.count;
            copyRow(other.brightness, brightness);
            copyRow(other.sector, sector);
            copyRow(other.claimant, claimant);
            copyRow(other.sightings, sightings);
            copyRow(other.clouds, clouds);
        }

        int add(int newBrightness, int newSector) {
            int star = count;
            brightness[star] = newBrightness;
            sector[star] = newSector;
            claimant[star] = NOTHING;
            sightings[star] = 0;
            count++;
            return star;
        }

        boolean has(int star) {
            return star >= 0 && star < count;
        }

        boolean isSeen(int star) {
            return brightness[star] > clouds[sector[star]];
        }

        int countSeen(int ofSector) {
            int seen = 0;
            for (int star = 0; star < count; star++) {
                if (sector[star] == ofSector && isSeen(star)) {
                    seen++;
                }
            }
            return seen;
        }

        int countSeenByBrightness(int ofSector) {
            int seen = 0;
            for (int bright = clouds[ofSector] + 1; bright <= MOST_BRIGHTNESS; bright++) {
                seen += countOfBrightness(ofSector, bright);
            }
            return seen;
        }

        private int countOfBrightness(int ofSector, int bright) {
            int found = 0;
            for (int star = 0; star < count; star++) {
                if (sector[star] == ofSector && brightness[star] == bright) {
                    found++;
                }
            }
            return found;
        }

        int dawnsUntilAllSeen(int ofSector) {
            int dawns = 0;
            for (int star = 0; star < count; star++) {
                if (sector[star] == ofSector) {
                    dawns = Math.max(dawns, clouds[ofSector] - brightness[star] + 1);
                }
            }
            return dawns;
        }

        int countClaimed() {
            return count - countAlike(claimant, count, NOTHING);
        }

        int countClaimedBy(int roof) {
            return countAlike(claimant, count, roof);
        }

        int starAtPlace(int place) {
            for (int star = 0; star < count; star++) {
                int ahead = 0;
                for (int other = 0; other < count; other++) {
                    if (isBrighter(other, star)) {
                        ahead++;
                    }
                }
                if (ahead == place) {
                    return star;
                }
            }
            return NONE;
        }

        private boolean isBrighter(int star, int other) {
            if (brightness[star] != brightness[other]) {
                return brightness[star] > brightness[other];
            }
            if (sightings[star] != sightings[other]) {
                return sightings[star] > sightings[other];
            }
            return star < other;
        }

        void thinClouds() {
            for (int i = 0; i < SECTORS; i++) {
                clouds[i] = Math.max(clouds[i] - 1, 0);
            }
        }
    }

    /** The roofs, and what each has done so far. */
    private static final class Roofs {
        int count;
        final int[] coins = new int[MOST_ROOFS];
        final int[] debt = new int[MOST_ROOFS];
        final int[] stay = new int[MOST_ROOFS];
        final int[] levied = new int[MOST_ROOFS];
        final int[] paid = new int[MOST_ROOFS];
        final int[] granted = new int[MOST_ROOFS];
        final int[] forfeited = new int[MOST_ROOFS];
        /** The stars sighted this night, as sets. */
        final int[] sighted = new int[MOST_ROOFS];
        /** Those of them that could be seen then. */
        final int[] sightedSeen = new int[MOST_ROOFS];

        void empty() {
            count = 0;
        }

        void copyFrom(Roofs other) {
            count = other.count;
            copyRow(other.coins, coins);
            copyRow(other.debt, debt);
            copyRow(other.stay, stay);
            copyRow(other.levied, levied);
            copyRow(other.paid, paid);
            copyRow(other.granted, granted);
            copyRow(other.forfeited, forfeited);
            copyRow(other.sighted, sighted);
            copyRow(other.sightedSeen, sightedSeen);
        }

        // Rows are used again after a clear or an undo, so each number is set anew.
        int add(int newCoins) {
            int roof = count;
            coins[roof] = newCoins;
            debt[roof] = 0;
            stay[roof] = 0;
            levied[roof] = 0;
            paid[roof] = 0;
            granted[roof] = 0;
            forfeited[roof] = 0;
            sighted[roof] = 0;
            sightedSeen[roof] = 0;
            count++;
            return roof;
        }

        boolean has(int roof) {
            return roof >= 0 && roof < count;
        }

        void collect(int roof, int levy, int claimant) {
            int payment = Math.min(coins[roof], levy);
            coins[roof] -= payment;
            debt[roof] += levy - payment;
            levied[roof] += levy;
            paid[roof] += payment;
            if (has(claimant)) {
                coins[claimant] += payment / 2;
            }
        }

        void beginNight() {
            for (int roof = 0; roof < count; roof++) {
                stay[roof] = Math.max(stay[roof] - 1, 0);
                sighted[roof] = 0;
                sightedSeen[roof] = 0;
            }
        }
    }

    /** The wishes that are neither granted nor forfeited yet. */
    private static final class Wishes {
        int count;
        final int[] roof = new int[MOST_WISHES];
        final int[] star = new int[MOST_WISHES];
        final int[] kind = new int[MOST_WISHES];
        final int[] age = new int[MOST_WISHES];
        /** For how many nights each has been impounded, NOTHING if it is not. */
        final int[] impounded = new int[MOST_WISHES];

        void empty() {
            count = 0;
        }

        void copyFrom(Wishes other) {
            count = other.count;
            copyRow(other.roof, roof);
            copyRow(other.star, star);
            copyRow(other.kind, kind);
            copyRow(other.age, age);
            copyRow(other.impounded, impounded);
        }

        int add(int newRoof, int newStar, int newKind) {
            int wish = count;
            roof[wish] = newRoof;
            star[wish] = newStar;
            kind[wish] = newKind;
            age[wish] = 0;
            impounded[wish] = NOTHING;
            count++;
            return wish;
        }

        void move(int from, int to) {
            roof[to] = roof[from];
            star[to] = star[from];
            kind[to] = kind[from];
            age[to] = age[from];
            impounded[to] = impounded[from];
        }

        boolean has(int wish) {
            return wish >= 0 && wish < count;
        }

        boolean isImpounded(int wish) {
            return impounded[wish] != NOTHING;
        }

        int countOn(int ofStar) {
            return countAlike(star, count, ofStar);
        }

        int countOf(int ofRoof) {
            return countAlike(roof, count, ofRoof);
        }

        int countImpounded() {
            return count - countAlike(impounded, count, NOTHING);
        }

        int impoundedSetOf(int ofRoof) {
            int set = 0;
            for (int wish = 0; wish < count; wish++) {
                if (roof[wish] == ofRoof && isImpounded(wish)) {
                    set |= 1 << wish;
                }
            }
            return set;
        }

        int impoundAllOf(int ofRoof) {
            int taken = 0;
            for (int wish = 0; wish < count; wish++) {
                if (roof[wish] == ofRoof && !isImpounded(wish)) {
                    impounded[wish] = 0;
                    taken++;
                }
            }
            return taken;
        }
    }

    /** All that changes can change. */
    private static final class Sky {
        final Stars stars = new Stars();
        final Roofs roofs = new Roofs();
        final Wishes wishes = new Wishes();
        int nights;
        int exempt;

        void empty() {
            stars.empty();
            roofs.empty();
            wishes.empty();
            nights = 0;
            exempt = 0;
        }

        void copyFrom(Sky other) {
            stars.copyFrom(other.stars);
            roofs.copyFrom(other.roofs);
            wishes.copyFrom(other.wishes);
            nights = other.nights;
            exempt = other.exempt;
        }

        boolean hasBoth(int roof, int star) {
            return roofs.has(roof) && stars.has(star);
        }

        int addStar(int brightness, int sector, Refusal refusal) {
            if (!isSector(sector)) {
                return NONE;
            }
            if (!isWithin(brightness, 1, MOST_BRIGHTNESS)) {
                return BAD;
            }
            if (stars.count >= MOST_STARS) {
                return refusal.because(FULL, MOST_STARS);
            }
            return stars.add(brightness, sector);
        }

        int addRoof(int coins, Refusal refusal) {
            if (!isWithin(coins, 0, MOST_COINS)) {
                return BAD;
            }
            if (roofs.count >= MOST_ROOFS) {
                return refusal.because(FULL, MOST_ROOFS);
            }
            return roofs.add(coins);
        }

        int tellCloud(int sector, int cloud, Refusal refusal) {
            if (!isSector(sector)) {
                return NONE;
            }
            if (!isWithin(cloud, 0, MOST_DIGIT)) {
                return BAD;
            }
            int before = stars.clouds[sector];
            if (before == cloud) {
                return refusal.because(SO_ALREADY, cloud);
            }
            stars.clouds[sector] = cloud;
            return before;
        }

        int sightStar(int roof, int star, Refusal refusal) {
            if (!hasBoth(roof, star)) {
                return NONE;
            }
            int bit = 1 << star;
            if ((roofs.sighted[roof] & bit) != 0) {
                return refusal.because(SIGHTED_ALREADY, Integer.bitCount(roofs.sighted[roof]));
            }
            roofs.sighted[roof] |= bit;
            stars.sightings[star]++;
            if (!stars.isSeen(star)) {
                exempt++;
                return 0;
            }
            roofs.sightedSeen[roof] |= bit;
            int levy = levyOn(roof, star);
            roofs.collect(roof, levy, stars.claimant[star]);
            return levy;
        }

        int levyOn(int roof, int star) {
            boolean isFree = !stars.isSeen(star) || stars.claimant[star] == roof;
            return isFree ? 0 : stars.brightness[star];
        }

        int claimStar(int roof, int star, Refusal refusal) {
            if (!hasBoth(roof, star)) {
                return NONE;
            }
            if (stars.claimant[star] != NOTHING) {
                return refusal.because(CLAIMED, stars.claimant[star]);
            }
            int cost = 2 * stars.brightness[star];
            if (roofs.coins[roof] < cost) {
                return refusal.because(TOO_FEW_COINS, cost - roofs.coins[roof]);
            }
            roofs.coins[roof] -= cost;
            stars.claimant[star] = roof;
            return cost;
        }

        int dropClaim(int star, Refusal refusal) {
            if (!stars.has(star)) {
                return NONE;
            }
            int before = stars.claimant[star];
            if (before == NOTHING) {
                return refusal.because(UNCLAIMED, star);
            }
            stars.claimant[star] = NOTHING;
            return before;
        }

        int addWish(int roof, int star, int kind, Refusal refusal) {
            if (!hasBoth(roof, star)) {
                return NONE;
            }
            if (!isWithin(kind, 0, MOST_DIGIT)) {
                return BAD;
            }
            if ((roofs.sightedSeen[roof] & 1 << star) == 0) {
                return refusal.because(NOT_SIGHTED, Integer.bitCount(roofs.sightedSeen[roof]));
            }
            if (wishes.count >= MOST_WISHES) {
                return refusal.because(FULL, MOST_WISHES);
            }
            return wishes.add(roof, star, kind);
        }

        int payDebt(int roof, int coins, Refusal refusal) {
            if (!roofs.has(roof)) {
                return NONE;
            }
            if (!isWithin(coins, 1, MOST_COINS)) {
                return BAD;
            }
            if (roofs.coins[roof] < coins) {
                return refusal.because(TOO_FEW_COINS, coins - roofs.coins[roof]);
            }
            if (roofs.debt[roof] < coins) {
                return refusal.because(DEBT_IS_LESS, roofs.debt[roof]);
            }
            roofs.coins[roof] -= coins;
            roofs.paid[roof] += coins;
            roofs.debt[roof] -= coins;
            return roofs.debt[roof];
        }

        int poundWishes(int roof, Refusal refusal) {
            if (!roofs.has(roof)) {
                return NONE;
            }
            if (roofs.stay[roof] > 0) {
                return refusal.because(STAYED, roofs.stay[roof]);
            }
            if (roofs.debt[roof] < DEBT_TO_POUND) {
                return refusal.because(DEBT_IS_SMALL, roofs.debt[roof]);
            }
            int taken = wishes.impoundAllOf(roof);
            return taken > 0 ? taken : refusal.because(NO_FREE_WISH, wishes.countOf(roof));
        }

        int costToRedeem(int wish) {
            return stars.brightness[wishes.star[wish]] + wishes.impounded[wish];
        }

        int redeemWish(int wish, Refusal refusal) {
            if (!wishes.has(wish)) {
                return NONE;
            }
            if (!wishes.isImpounded(wish)) {
                return refusal.because(NOT_IMPOUNDED, wishes.age[wish]);
            }
            int roof = wishes.roof[wish];
            int cost = costToRedeem(wish);
            if (roofs.coins[roof] < cost) {
                return refusal.because(TOO_FEW_COINS, cost - roofs.coins[roof]);
            }
            roofs.coins[roof] -= cost;
            wishes.impounded[wish] = NOTHING;
            return cost;
        }

        int giveStay(int roof, int nightsLong, Refusal refusal) {
            if (!roofs.has(roof)) {
                return NONE;
            }
            if (!isWithin(nightsLong, 0, MOST_DIGIT)) {
                return BAD;
            }
            int before = roofs.stay[roof];
            if (before == nightsLong) {
                return refusal.because(SO_ALREADY, nightsLong);
            }
            roofs.stay[roof] = nightsLong;
            return before;
        }

        int passNight() {
            int granted = countGrantable();
            int kept = 0;
            for (int wish = 0; wish < wishes.count; wish++) {
                if (staysAtDawn(wish)) {
                    wishes.move(wish, kept);
                    kept++;
                }
            }
            wishes.count = kept;
            stars.thinClouds();
            roofs.beginNight();
            nights++;
            return granted;
        }

        /** Lets a wish meet the dawn, and tells whether it is still there then. */
        private boolean staysAtDawn(int wish) {
            int roof = wishes.roof[wish];
            if (isGrantable(wish)) {
                roofs.granted[roof]++;
                return false;
            }
            if (!wishes.isImpounded(wish)) {
                wishes.age[wish]++;
                return true;
            }
            wishes.impounded[wish]++;
            if (wishes.impounded[wish] < NIGHTS_TO_FORFEIT) {
                return true;
            }
            roofs.forfeited[roof]++;
            return false;
        }

        private boolean isGrantable(int wish) {
            return !wishes.isImpounded(wish) && stars.isSeen(wishes.star[wish]);
        }

        int countGrantable() {
            int grantable = 0;
            for (int wish = 0; wish < wishes.count; wish++) {
                if (isGrantable(wish)) {
                    grantable++;
                }
            }
            return grantable;
        }

        int countRedeemable(int roof) {
            int left = roofs.coins[roof];
            int open = wishes.impoundedSetOf(roof);
            for (int redeemed = 0; redeemed < MOST_WISHES; redeemed++) {
                int wish = cheapestWish(open);
                if (wish == NOTHING || costToRedeem(wish) > left) {
                    return redeemed;
                }
                left -= costToRedeem(wish);
                open &= ~(1 << wish);
            }
            return MOST_WISHES;
        }

        private int cheapestWish(int set) {
            int best = NOTHING;
            for (int wish = 0; wish < wishes.count; wish++) {
                if ((set & 1 << wish) != 0
                        && (best == NOTHING || costToRedeem(wish) < costToRedeem(best))) {
                    best = wish;
                }
            }
            return best;
        }

        int countRedeemableByTrying(int roof) {
            int all = wishes.impoundedSetOf(roof);
            int most = 0;
            for (int set = 0; set <= all; set++) {
                if ((set & ~all) == 0 && costOfSet(set) <= roofs.coins[roof]) {
                    most = Math.max(most, Integer.bitCount(set));
                }
            }
            return most;
        }

        private int costOfSet(int set) {
            int cost = 0;
            for (int wish = 0; wish < wishes.count; wish++) {
                if ((set & 1 << wish) != 0) {
                    cost += costToRedeem(wish);
                }
            }
            return cost;
        }

        int cheapestStar(int roof) {
            int best = NOTHING;
            for (int star = 0; star < stars.count; star++) {
                boolean isOpen = stars.isSeen(star) && (roofs.sighted[roof] & 1 << star) == 0;
                if (isOpen && (best == NOTHING || isCheaper(roof, star, best))) {
                    best = star;
                }
            }
            return best;
        }

        private boolean isCheaper(int roof, int star, int other) {
            int levy = levyOn(roof, star);
            int otherLevy = levyOn(roof, other);
            if (levy != otherLevy) {
                return levy < otherLevy;
            }
            return stars.brightness[star] > stars.brightness[other];
        }

        int roofAtPlace(int place) {
            for (int roof = 0; roof < roofs.count; roof++) {
                int ahead = 0;
                for (int other = 0; other < roofs.count; other++) {
                    if (isRicher(other, roof)) {
                        ahead++;
                    }
                }
                if (ahead == place) {
                    return roof;
                }
            }
            return NONE;
        }

        private boolean isRicher(int roof, int other) {
            int worth = roofs.coins[roof] - roofs.debt[roof];
            int otherWorth = roofs.coins[other] - roofs.debt[other];
            if (worth != otherWorth) {
                return worth > otherWorth;
            }
            int wishCount = wishes.countOf(roof);
            int otherWishCount = wishes.countOf(other);
            if (wishCount != otherWishCount) {
                return wishCount < otherWishCount;
            }
            return roof < other;
        }
    }
}
