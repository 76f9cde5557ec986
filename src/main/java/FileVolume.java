import java.util.NoSuchElementException;

/**
 * A volume of files and directories on 70 sectors of 32 bytes, with a table of cells that is kept
 * twice, cuts of the power and a repair. The document ../shared/DOC.md says what each call does.
 */
public final class FileVolume {
    private static final int SECTORS = 70;
    private static final int SECTOR_BYTES = 32;
    private static final int CELLS = 64;
    private static final int SECOND_TABLE = 4 * SECTOR_BYTES;
    private static final int SECTORS_BEFORE_CLUSTER_0 = 6;
    private static final int ROOT = 2;
    private static final int NO_CLUSTER = 0;
    private static final int LAST = 65535;

    private static final int ENTRY_BYTES = 16;
    private static final int FILE = 1;
    private static final int DIRECTORY = 2;
    private static final int PART = 15;
    private static final int FREED = 229;
    private static final int KIND_AT = 6;
    private static final int SUM_AT = 7;
    private static final int CLUSTER_AT = 8;
    private static final int SIZE_AT = 10;

    private static final int SHORT_CHARS = 6;
    private static final int STEM_CHARS = 4;
    private static final int PART_CHARS = 13;
    private static final int LINE_CHARS = 26;
    private static final int GREATEST_PART = 64;
    private static final int BLANK = 32;

    private static final int HANDLES = 4;
    private static final int DEEPEST = 5;
    private static final int LARGEST_FILE = 1024;
    private static final int MOST_READ = 7;
    private static final int MOST_WRITTEN = 8;
    private static final int NONE = -1;

    private final Session session;
    private final Disk disk;
    private final Table table;
    private final Folder folder;
    private final Folder below;
    private final Repairer repairer;
    private final Name name;
    private final int[] row;

    public FileVolume() {
        session = new Session();
        disk = new Disk(session);
        table = new Table(disk);
        folder = new Folder(disk, table);
        below = new Folder(disk, table);
        repairer = new Repairer(disk, table, folder);
        name = new Name();
        row = new int[ENTRY_BYTES];
    }

    public boolean type(char c) {
        return session.append(c);
    }

    public void create(int kind)
            throws IllegalStateException, IllegalArgumentException, UnsupportedOperationException {
        demandSoundDisk();
        name.takeLineOf(session);
        if (!name.isGood() || (kind != FILE && kind != DIRECTORY)) {
            throw new IllegalArgumentException("no good name or no such kind");
        }
        folder.load(session.here);
        boolean tooDeep = kind == DIRECTORY && session.depth >= DEEPEST;
        if (tooDeep || folder.find(name, 0) != NONE || !name.chooseShort(folder)) {
            throw new UnsupportedOperationException("too deep, called so already, or no short name");
        }
        int first = kind == DIRECTORY ? table.take() : NO_CLUSTER;
        if (kind == DIRECTORY && first == NO_CLUSTER) {
            throw new UnsupportedOperationException("no room");
        }
        int index = makeFreeRow(name.parts + 1);
        if (index == NONE) {
            throw new UnsupportedOperationException("no room");
        }
        writeEntries(index, kind, first);
    }

    public void delete()
            throws IllegalStateException, NoSuchElementException, UnsupportedOperationException {
        demandSoundDisk();
        name.takeLineOf(session);
        folder.load(session.here);
        int index = folder.find(name, 0);
        if (index == NONE) {
            throw new NoSuchElementException("nothing is called so");
        }
        if (!canBeDeleted(index)) {
            throw new UnsupportedOperationException("it is open or not empty");
        }
        folder.markFreed(index);
        table.release(folder.firstClusterOf(index));
    }

    public void enter() throws IllegalStateException, NoSuchElementException {
        demandSoundDisk();
        name.takeLineOf(session);
        if (name.length == 0) {
            session.goToRoot();
            return;
        }
        folder.load(session.here);
        int index = folder.find(name, DIRECTORY);
        if (index == NONE) {
            throw new NoSuchElementException("no directory is called so");
        }
        session.goDown(folder.firstClusterOf(index));
    }

    public int open()
            throws IllegalStateException, NoSuchElementException, UnsupportedOperationException {
        demandSoundDisk();
        name.takeLineOf(session);
        folder.load(session.here);
        int index = folder.find(name, FILE);
        if (index == NONE) {
            throw new NoSuchElementException("no file is called so");
        }
        int handle = session.leastFreeHandle();
        if (handle == NONE) {
            throw new UnsupportedOperationException("all handles are open");
        }
        session.hold(handle, folder.addressOf(index));
        return handle;
    }

    public boolean close(int handle) {
        if (!session.isOpen(handle)) {
            return false;
        }
        session.drop(handle);
        return true;
    }

    public boolean seek(int handle, int position) {
        if (!session.isOpen(handle) || position < 0 || position > sizeOfFile(handle)) {
            return false;
        }
        session.moveTo(handle, position);
        return true;
    }

    public long read(int handle, int n) throws IllegalStateException, IllegalArgumentException {
        demandSoundDisk();
        if (!session.isOpen(handle) || n < 1 || n > MOST_READ) {
            throw new IllegalArgumentException("not open, or not 1 to 7 bytes");
        }
        int position = session.positionOf(handle);
        int first = disk.pairAt(session.entryOf(handle) + CLUSTER_AT);
        int count = Math.min(n, sizeOfFile(handle) - position);
        long answer = 0;
        for (int i = 0; i < count; i++) {
            answer = (answer << 8) | disk.at(addressInChain(first, position + i));
        }
        session.moveTo(handle, position + count);
        return answer | ((long) count << 56);
    }

    public int write(int handle, long bytes, int n)
            throws IllegalStateException, IllegalArgumentException, UnsupportedOperationException {
        demandSoundDisk();
        if (!session.isOpen(handle) || n < 1 || n > MOST_WRITTEN) {
            throw new IllegalArgumentException("not open, or not 1 to 8 bytes");
        }
        int position = session.positionOf(handle);
        int entry = session.entryOf(handle);
        if (position + n > LARGEST_FILE) {
            throw new UnsupportedOperationException("the file would be too great");
        }
        int count = Math.min(n, roomAfterGrowing(entry, position + n) - position);
        if (count <= 0) {
            throw new UnsupportedOperationException("no room");
        }
        spread(bytes, n);
        writeData(disk.pairAt(entry + CLUSTER_AT), position, count);
        if (position + count > disk.pairAt(entry + SIZE_AT)) {
            disk.writePair(entry + SIZE_AT, position + count);
        }
        session.moveTo(handle, position + count);
        return count;
    }

    public int list(int k, int what)
            throws IllegalStateException, NoSuchElementException, IndexOutOfBoundsException {
        demandSoundDisk();
        folder.load(session.here);
        int index = folder.indexOfNamed(k);
        if (index == NONE) {
            throw new NoSuchElementException("so many there are not");
        }
        if (!canBeListed(what)) {
            throw new IndexOutOfBoundsException("nothing to list");
        }
        switch (what) {
            case 0:
                return folder.kindOf(index);
            case 1:
                return folder.sizeOf(index);
            case 2:
                return folder.firstClusterOf(index);
            case 3:
                return folder.longLengthOf(index, folder.partsOf(index));
            default:
                return what < 20
                        ? folder.shortCharOf(index, what - 10)
                        : folder.longCharOf(index, what - 20);
        }
    }

    public boolean cut(int k) {
        return disk.setCut(k);
    }

    public boolean power() {
        return disk.switchOn();
    }

    public int repair() throws IllegalStateException {
        if (!disk.powered) {
            throw new IllegalStateException("no power");
        }
        session.leave();
        repairer.mendTables();
        repairer.mendRoot();
        repairer.goThrough(ROOT, 1);
        repairer.clearLost();
        disk.suspect = false;
        return repairer.fixes;
    }

    public int octet(int sector, int k) {
        return isOnDisk(sector, k) ? disk.at(sector * SECTOR_BYTES + k) : NONE;
    }

    public boolean poke(int sector, int k, int value) {
        if (!isOnDisk(sector, k)) {
            return false;
        }
        disk.put(sector * SECTOR_BYTES + k, value);
        disk.suspect = true;
        session.leave();
        return true;
    }

    public int look(int what) {
        switch (what) {
            case 0:
                return disk.powered ? 1 : 0;
            case 1:
                return disk.writes;
            case 2:
                return table.countFree();
            case 3:
                return session.here;
            case 4:
                return session.lineLength;
            default:
                return what >= 10 && session.isOpen(what - 10) ? session.positionOf(what - 10) : NONE;
        }
    }

    private void demandSoundDisk() {
        if (!disk.powered || disk.suspect) {
            throw new IllegalStateException("no power, or the disk is suspect");
        }
    }

    private int makeFreeRow(int needed) {
        for (int taken = 0; taken <= CELLS; taken++) {
            int index = folder.findFreeRow(needed);
            if (index != NONE) {
                return index;
            }
            int cluster = table.take();
            if (cluster == NO_CLUSTER) {
                return NONE;
            }
            table.set(folder.lastCluster, cluster);
            folder.load(session.here);
        }
        return NONE;
    }

    private void writeEntries(int index, int kind, int first) {
        for (int i = 0; i < name.parts; i++) {
            name.fillPart(name.parts - i, row);
            disk.writeRow(folder.addressOf(index + i), row, 0, ENTRY_BYTES);
        }
        name.fillEntry(kind, first, row);
        disk.writeRow(folder.addressOf(index + name.parts), row, 0, ENTRY_BYTES);
    }

    private boolean canBeDeleted(int index) {
        if (folder.kindOf(index) == FILE) {
            return !session.holds(folder.addressOf(index));
        }
        below.load(folder.firstClusterOf(index));
        return below.isEmpty();
    }

    private int sizeOfFile(int handle) {
        return disk.pairAt(session.entryOf(handle) + SIZE_AT);
    }

    private int addressInChain(int first, int position) {
        int cluster = table.clusterAt(first, position / SECTOR_BYTES);
        return sectorOf(cluster) * SECTOR_BYTES + position % SECTOR_BYTES;
    }

    private int roomAfterGrowing(int entry, int end) {
        int clusters = table.lengthOf(disk.pairAt(entry + CLUSTER_AT));
        for (int taken = 0; taken < CELLS && clusters * SECTOR_BYTES < end; taken++) {
            int cluster = table.take();
            if (cluster == NO_CLUSTER) {
                break;
            }
            if (clusters == 0) {
                disk.writePair(entry + CLUSTER_AT, cluster);
            } else {
                int first = disk.pairAt(entry + CLUSTER_AT);
                table.set(table.clusterAt(first, clusters - 1), cluster);
            }
            clusters++;
        }
        return clusters * SECTOR_BYTES;
    }

    private void spread(long bytes, int n) {
        for (int i = 0; i < n; i++) {
            row[i] = (int) (bytes >> (8 * (n - 1 - i))) & 255;
        }
    }

    private void writeData(int first, int position, int count) {
        int done = 0;
        for (int sectors = 0; sectors < MOST_WRITTEN && done < count; sectors++) {
            int left = SECTOR_BYTES - (position + done) % SECTOR_BYTES;
            int piece = Math.min(left, count - done);
            disk.writeRow(addressInChain(first, position + done), row, done, piece);
            done += piece;
        }
    }

    private static boolean canBeListed(int what) {
        return (what >= 0 && what <= 3)
                || (what >= 10 && what < 10 + SHORT_CHARS)
                || (what >= 20 && what < 20 + LINE_CHARS);
    }

    private static boolean isOnDisk(int sector, int k) {
        return sector >= 0 && sector < SECTORS && k >= 0 && k < SECTOR_BYTES;
    }

    private static boolean isCluster(int number) {
        return number >= ROOT && number < CELLS;
    }

    private static int sectorOf(int cluster) {
        return cluster + SECTORS_BEFORE_CLUSTER_0;
    }

    private static boolean isShortChar(int c) {
        return (c >= 'A' && c <= 'Z') || (c >= '0' && c <= '9');
    }

    private static int capital(int c) {
        return c >= 'a' && c <= 'z' ? c - 'a' + 'A' : c;
    }

    private static int addToSum(int sum, int c) {
        return (sum * 2 + sum / 128 + c) & 255;
    }

    /** Bytes 6 and 7 of a part are its kind and its sum, so the characters stand around them. */
    private static int placeInPart(int i) {
        return i < 5 ? i + 1 : i + 3;
    }

    /** What ends with the power: the line, HERE and the handles. */
    private static final class Session {
        private final char[] line;
        private final int[] entries;
        private final int[] positions;
        private int lineLength;
        private int here;
        private int depth;

        Session() {
            line = new char[LINE_CHARS];
            entries = new int[HANDLES];
            positions = new int[HANDLES];
            leave();
        }

        boolean append(char c) {
            if (c < 33 || c > 126 || c == '/' || lineLength >= LINE_CHARS) {
                return false;
            }
            line[lineLength] = c;
            lineLength++;
            return true;
        }

        void goToRoot() {
            here = ROOT;
            depth = 1;
        }

        void goDown(int cluster) {
            here = cluster;
            depth++;
        }

        void leave() {
            here = ROOT;
            depth = 1;
            for (int handle = 0; handle < HANDLES; handle++) {
                entries[handle] = NONE;
                positions[handle] = 0;
            }
        }

        boolean isOpen(int handle) {
            return handle >= 0 && handle < HANDLES && entries[handle] != NONE;
        }

        int leastFreeHandle() {
            for (int handle = 0; handle < HANDLES; handle++) {
                if (entries[handle] == NONE) {
                    return handle;
                }
            }
            return NONE;
        }

        boolean holds(int entry) {
            for (int handle = 0; handle < HANDLES; handle++) {
                if (entries[handle] == entry) {
                    return true;
                }
            }
            return false;
        }

        void hold(int handle, int entry) {
            if (handle >= 0 && handle < HANDLES) {
                entries[handle] = entry;
                positions[handle] = 0;
            }
        }

        void drop(int handle) {
            if (handle >= 0 && handle < HANDLES) {
                entries[handle] = NONE;
            }
        }

        void moveTo(int handle, int position) {
            if (handle >= 0 && handle < HANDLES) {
                positions[handle] = position;
            }
        }

        int entryOf(int handle) {
            return handle >= 0 && handle < HANDLES ? entries[handle] : NONE;
        }

        int positionOf(int handle) {
            return handle >= 0 && handle < HANDLES ? positions[handle] : 0;
        }
    }

    /** The bytes of the sectors, with the writes counted and the power that a write can cut. */
    private static final class Disk {
        private final int[] bytes;
        private final Session session;
        private boolean powered;
        private boolean suspect;
        private int writes;
        private boolean cutIsSet;
        private int writesBeforeCut;

        Disk(Session session) {
            this.session = session;
            bytes = new int[SECTORS * SECTOR_BYTES];
            powered = true;
            for (int i = 0; i < 2 * (ROOT + 1); i++) {
                bytes[i] = 255;
                bytes[SECOND_TABLE + i] = 255;
            }
        }

        int at(int address) {
            return address >= 0 && address < bytes.length ? bytes[address] : 0;
        }

        int pairAt(int address) {
            boolean isThere = address >= 0 && address < bytes.length - 1;
            return isThere ? bytes[address] + 256 * bytes[address + 1] : 0;
        }

        void put(int address, int value) {
            if (address >= 0 && address < bytes.length) {
                bytes[address] = value & 255;
            }
        }

        boolean setCut(int k) {
            if (k < 0 || !powered) {
                return false;
            }
            cutIsSet = true;
            writesBeforeCut = k;
            return true;
        }

        boolean switchOn() {
            boolean wasOff = !powered;
            powered = true;
            return wasOff;
        }

        /** Stands in front of every write, since the write that meets the cut is not made. */
        void countWrite() {
            if (cutIsSet && writesBeforeCut == 0) {
                cutIsSet = false;
                powered = false;
                session.leave();
                session.lineLength = 0;
                throw new IllegalStateException("the power was cut");
            }
            if (cutIsSet) {
                writesBeforeCut--;
            }
            writes++;
        }

        void writeByte(int address, int value) {
            countWrite();
            put(address, value);
        }

        void writePair(int address, int value) {
            countWrite();
            put(address, value);
            put(address + 1, value >> 8);
        }

        void writeRow(int address, int[] row, int from, int n) {
            countWrite();
            for (int i = 0; i < n; i++) {
                int k = from + i;
                if (k >= 0 && k < row.length) {
                    put(address + i, row[k]);
                }
            }
        }

        void clearSector(int sector) {
            countWrite();
            for (int k = 0; k < SECTOR_BYTES; k++) {
                put(sector * SECTOR_BYTES + k, 0);
            }
        }
    }

    /** The cells of the clusters, read in the first table and kept in both. */
    private static final class Table {
        private final Disk disk;

        Table(Disk disk) {
            this.disk = disk;
        }

        int cell(int cluster) {
            return disk.pairAt(2 * cluster);
        }

        int secondCell(int cluster) {
            return disk.pairAt(SECOND_TABLE + 2 * cluster);
        }

        void set(int cluster, int value) {
            disk.writePair(2 * cluster, value);
            disk.writePair(SECOND_TABLE + 2 * cluster, value);
        }

        void setSecond(int cluster, int value) {
            disk.writePair(SECOND_TABLE + 2 * cluster, value);
        }

        boolean isFree(int cluster) {
            return cell(cluster) == 0;
        }

        int countFree() {
            int count = 0;
            for (int cluster = ROOT; cluster < CELLS; cluster++) {
                if (isFree(cluster)) {
                    count++;
                }
            }
            return count;
        }

        int leastFree() {
            for (int cluster = ROOT; cluster < CELLS; cluster++) {
                if (isFree(cluster)) {
                    return cluster;
                }
            }
            return NO_CLUSTER;
        }

        /** Answers NO_CLUSTER if there is no room. */
        int take() {
            int cluster = leastFree();
            if (cluster != NO_CLUSTER) {
                set(cluster, LAST);
                disk.clearSector(sectorOf(cluster));
            }
            return cluster;
        }

        void release(int first) {
            int cluster = first;
            for (int n = 0; n < CELLS && isCluster(cluster); n++) {
                int next = cell(cluster);
                set(cluster, 0);
                cluster = next;
            }
        }

        int lengthOf(int first) {
            int cluster = first;
            int length = 0;
            while (length < CELLS && isCluster(cluster)) {
                cluster = cell(cluster);
                length++;
            }
            return length;
        }

        int clusterAt(int first, int index) {
            int cluster = first;
            for (int n = 0; n < index && n < CELLS && isCluster(cluster); n++) {
                cluster = cell(cluster);
            }
            return isCluster(cluster) ? cluster : NO_CLUSTER;
        }
    }

    /** The entries of one directory, in the order of its chain. */
    private static final class Folder {
        private final Disk disk;
        private final Table table;
        private final int[] addresses;
        private int count;
        private int lastCluster;

        Folder(Disk disk, Table table) {
            this.disk = disk;
            this.table = table;
            addresses = new int[2 * CELLS];
        }

        void load(int first) {
            count = 0;
            int cluster = first;
            for (int n = 0; n < CELLS && isCluster(cluster); n++) {
                int start = sectorOf(cluster) * SECTOR_BYTES;
                addresses[2 * n] = start;
                addresses[2 * n + 1] = start + ENTRY_BYTES;
                count += 2;
                lastCluster = cluster;
                cluster = table.cell(cluster);
            }
        }

        int addressOf(int index) {
            return index >= 0 && index < count ? addresses[index] : NONE;
        }

        /** Beyond the ends it answers 0, so that what stands there counts as FREE. */
        int byteOf(int index, int k) {
            return index >= 0 && index < count ? disk.at(addresses[index] + k) : 0;
        }

        int pairOf(int index, int k) {
            return index >= 0 && index < count ? disk.pairAt(addresses[index] + k) : 0;
        }

        boolean isFree(int index) {
            int mark = byteOf(index, 0);
            return mark == 0 || mark == FREED;
        }

        int kindOf(int index) {
            return byteOf(index, KIND_AT);
        }

        int firstClusterOf(int index) {
            return pairOf(index, CLUSTER_AT);
        }

        int sizeOf(int index) {
            return pairOf(index, SIZE_AT);
        }

        boolean isNamed(int index) {
            int mark = byteOf(index, 0);
            int kind = byteOf(index, KIND_AT);
            return mark != 0 && mark != FREED && (kind == FILE || kind == DIRECTORY);
        }

        boolean isEmpty() {
            for (int index = 0; index < count; index++) {
                if (!isFree(index)) {
                    return false;
                }
            }
            return true;
        }

        int findFreeRow(int needed) {
            int length = 0;
            for (int index = 0; index < count; index++) {
                length = isFree(index) ? length + 1 : 0;
                if (length == needed) {
                    return index - needed + 1;
                }
            }
            return NONE;
        }

        int indexOfNamed(int k) {
            int before = 0;
            for (int index = 0; index < count; index++) {
                if (isNamed(index)) {
                    if (before == k) {
                        return index;
                    }
                    before++;
                }
            }
            return NONE;
        }

        /** The first entry of a kind (0: of either) that is called so, or NONE. */
        int find(Name name, int kind) {
            for (int index = 0; index < count; index++) {
                boolean fits = kind == 0 || kindOf(index) == kind;
                if (fits && isNamed(index) && isCalled(index, name)) {
                    return index;
                }
            }
            return NONE;
        }

        boolean isCalled(int index, Name name) {
            return isShortCalled(index, name) || isLongCalled(index, name, partsOf(index));
        }

        boolean isShortCalled(int index, Name name) {
            if (shortLengthOf(index) != name.length) {
                return false;
            }
            for (int i = 0; i < name.length; i++) {
                if (capital(byteOf(index, i)) != capital(name.charAt(i))) {
                    return false;
                }
            }
            return true;
        }

        boolean isLongCalled(int index, Name name, int parts) {
            if (parts == 0 || longLengthOf(index, parts) != name.length) {
                return false;
            }
            for (int i = 0; i < name.length; i++) {
                if (capital(longByteOf(index, i)) != capital(name.charAt(i))) {
                    return false;
                }
            }
            return true;
        }

        boolean hasShort(int[] wanted, int length) {
            for (int index = 0; index < count; index++) {
                if (isNamed(index) && isShort(index, wanted, length)) {
                    return true;
                }
            }
            return false;
        }

        boolean isShort(int index, int[] wanted, int length) {
            if (shortLengthOf(index) != length) {
                return false;
            }
            for (int i = 0; i < length && i < wanted.length; i++) {
                if (capital(byteOf(index, i)) != wanted[i]) {
                    return false;
                }
            }
            return true;
        }

        int shortLengthOf(int index) {
            for (int i = 0; i < SHORT_CHARS; i++) {
                int c = byteOf(index, i);
                if (c == BLANK || c == 0) {
                    return i;
                }
            }
            return SHORT_CHARS;
        }

        int shortCharOf(int index, int i) {
            return i < shortLengthOf(index) ? byteOf(index, i) : NONE;
        }

        int sumOf(int index) {
            int sum = 0;
            for (int i = 0; i < SHORT_CHARS; i++) {
                sum = addToSum(sum, byteOf(index, i));
            }
            return sum;
        }

        /** How many parts tell the long name of the file or directory: 0, 1 or 2. */
        int partsOf(int index) {
            if (!isNamed(index)) {
                return 0;
            }
            int sum = sumOf(index);
            if (isPart(index - 1, GREATEST_PART + 1, sum)) {
                return 1;
            }
            boolean two = isPart(index - 1, 1, sum) && isPart(index - 2, GREATEST_PART + 2, sum);
            return two ? 2 : 0;
        }

        boolean isPart(int index, int number, int sum) {
            return byteOf(index, 0) == number
                    && byteOf(index, KIND_AT) == PART
                    && byteOf(index, SUM_AT) == sum;
        }

        boolean isTellingPart(int index) {
            return kindOf(index) == PART && (partsOf(index + 1) > 0 || partsOf(index + 2) > 1);
        }

        int longByteOf(int index, int i) {
            return byteOf(index - 1 - i / PART_CHARS, placeInPart(i % PART_CHARS));
        }

        int longLengthOf(int index, int parts) {
            for (int i = 0; i < parts * PART_CHARS; i++) {
                if (longByteOf(index, i) == 0) {
                    return i;
                }
            }
            return parts * PART_CHARS;
        }

        int longCharOf(int index, int i) {
            return i < longLengthOf(index, partsOf(index)) ? longByteOf(index, i) : NONE;
        }

        void markFreed(int index) {
            for (int part = partsOf(index); part > 0; part--) {
                disk.writeByte(addressOf(index - part), FREED);
            }
            disk.writeByte(addressOf(index), FREED);
        }
    }

    /** The name that a call works with: the line, and the short name that is made of it. */
    private static final class Name {
        private final char[] text;
        private final int[] brief;
        private int length;
        private int parts;

        Name() {
            text = new char[LINE_CHARS];
            brief = new int[SHORT_CHARS];
        }

        /** Empties the line at once, since the call may end by an exception. */
        void takeLineOf(Session session) {
            length = session.lineLength;
            for (int i = 0; i < LINE_CHARS; i++) {
                text[i] = session.line[i];
            }
            session.lineLength = 0;
        }

        int charAt(int i) {
            return i >= 0 && i < length && i < text.length ? text[i] : 0;
        }

        boolean isGood() {
            return length > 0 && charAt(0) != '.';
        }

        boolean isShort() {
            for (int i = 0; i < length; i++) {
                if (!isShortChar(charAt(i))) {
                    return false;
                }
            }
            return length <= SHORT_CHARS;
        }

        /** Answers false if all nine short names are there already. */
        boolean chooseShort(Folder folder) {
            for (int i = 0; i < SHORT_CHARS; i++) {
                brief[i] = BLANK;
            }
            if (isShort()) {
                parts = 0;
                copyCapitals(SHORT_CHARS);
                return true;
            }
            parts = length > PART_CHARS ? 2 : 1;
            int stem = copyCapitals(STEM_CHARS);
            brief[stem] = '~';
            for (int digit = '1'; digit <= '9'; digit++) {
                brief[stem + 1] = digit;
                if (!folder.hasShort(brief, stem + 2)) {
                    return true;
                }
            }
            return false;
        }

        int copyCapitals(int most) {
            int copied = 0;
            for (int i = 0; i < length && copied < most && copied < SHORT_CHARS; i++) {
                int c = capital(charAt(i));
                if (isShortChar(c)) {
                    brief[copied] = c;
                    copied++;
                }
            }
            return copied;
        }

        int sum() {
            int sum = 0;
            for (int i = 0; i < SHORT_CHARS; i++) {
                sum = addToSum(sum, brief[i]);
            }
            return sum;
        }

        void fillPart(int number, int[] row) {
            if (row.length < ENTRY_BYTES) {
                return;
            }
            row[0] = number == parts ? number + GREATEST_PART : number;
            row[KIND_AT] = PART;
            row[SUM_AT] = sum();
            for (int i = 0; i < PART_CHARS; i++) {
                row[placeInPart(i)] = charAt((number - 1) * PART_CHARS + i);
            }
        }

        void fillEntry(int kind, int first, int[] row) {
            if (row.length < ENTRY_BYTES) {
                return;
            }
            for (int i = 0; i < ENTRY_BYTES; i++) {
                row[i] = i < SHORT_CHARS ? brief[i] : 0;
            }
            row[KIND_AT] = kind;
            row[CLUSTER_AT] = first;
        }
    }

    /** The three steps of REPAIR, and the FIXES that they count. */
    private static final class Repairer {
        private final Disk disk;
        private final Table table;
        private final Folder folder;
        private final boolean[] used;
        private int fixes;

        Repairer(Disk disk, Table table, Folder folder) {
            this.disk = disk;
            this.table = table;
            this.folder = folder;
            used = new boolean[CELLS];
        }

        void mendTables() {
            fixes = 0;
            for (int cell = 0; cell < CELLS; cell++) {
                used[cell] = false;
                if (table.secondCell(cell) != table.cell(cell)) {
                    table.setSecond(cell, table.cell(cell));
                    fixes++;
                }
            }
            for (int cell = 0; cell < CELLS; cell++) {
                if (isBad(cell)) {
                    table.set(cell, LAST);
                    fixes++;
                }
            }
        }

        boolean isBad(int cell) {
            int value = table.cell(cell);
            boolean canBeNext = value == 0 || isCluster(value);
            return value != LAST && (cell < ROOT || !canBeNext);
        }

        void mendRoot() {
            if (table.isFree(ROOT)) {
                table.set(ROOT, LAST);
                fixes++;
            }
            follow(ROOT);
        }

        private void goThrough(int first, int depth) {
            folder.load(first);
            int count = folder.count;
            for (int index = 0; index < count; index++) {
                int directory = visit(index, depth);
                if (directory != NO_CLUSTER && depth < DEEPEST) {
                    goThrough(directory, depth + 1);
                    folder.load(first);
                }
            }
        }

        /** Mends an entry and answers the directory that is to be gone through then. */
        int visit(int index, int depth) {
            if (folder.isFree(index) || folder.isTellingPart(index)) {
                return NO_CLUSTER;
            }
            if (isHopeless(index, depth)) {
                folder.markFreed(index);
                fixes++;
                return NO_CLUSTER;
            }
            int first = folder.firstClusterOf(index);
            int clusters = follow(first);
            if (folder.kindOf(index) == DIRECTORY) {
                return first;
            }
            mendFile(index, clusters);
            return NO_CLUSTER;
        }

        boolean isHopeless(int index, int depth) {
            if (!folder.isNamed(index)) {
                return true;
            }
            boolean isDirectory = folder.kindOf(index) == DIRECTORY;
            int first = folder.firstClusterOf(index);
            if (first == NO_CLUSTER) {
                return isDirectory;
            }
            return !isCluster(first)
                    || table.isFree(first)
                    || used[first]
                    || (isDirectory && depth >= DEEPEST);
        }

        /** Marks the chain as USED, ends it where it can't go on, and answers its length. */
        int follow(int first) {
            int cluster = first;
            int length = 0;
            while (length < CELLS && isCluster(cluster)) {
                used[cluster] = true;
                length++;
                int next = table.cell(cluster);
                if (isCluster(next) && (table.isFree(next) || used[next])) {
                    table.set(cluster, LAST);
                    fixes++;
                    return length;
                }
                cluster = next;
            }
            return length;
        }

        void mendFile(int index, int clusters) {
            int entry = folder.addressOf(index);
            int first = folder.firstClusterOf(index);
            int needed = (folder.sizeOf(index) + SECTOR_BYTES - 1) / SECTOR_BYTES;
            if (needed > clusters) {
                disk.writePair(entry + SIZE_AT, clusters * SECTOR_BYTES);
                fixes++;
            } else if (needed == 0 && clusters > 0) {
                forget(first);
                disk.writePair(entry + CLUSTER_AT, NO_CLUSTER);
                fixes++;
            } else if (needed < clusters) {
                int last = table.clusterAt(first, needed - 1);
                forget(table.cell(last));
                table.set(last, LAST);
                fixes++;
            }
        }

        void forget(int first) {
            int cluster = first;
            for (int n = 0; n < CELLS && isCluster(cluster); n++) {
                used[cluster] = false;
                cluster = table.cell(cluster);
            }
        }

        void clearLost() {
            for (int cluster = ROOT; cluster < CELLS; cluster++) {
                if (!used[cluster] && !table.isFree(cluster)) {
                    table.set(cluster, 0);
                    fixes++;
                }
            }
        }
    }
}
