/**
 * The sentences of "Terms" that name a boundary, in the document's order, with a test for each.
 * What blocks are given free by, and what a fault is, stands in {@link SchemesEdgeTest}.
 */
public final class TermsEdgeTest {
    public static void main(String[] args) {
        blocksAre1To20();
        keysAre0To31();
        everythingIs0AtFirst();
        linkOfTheListIsNeverMarked();
        keyAndLinkStay();
        lifeIsHowOftenItWasTaken();
        whatWasKnownIsForgotten();
        startAnnouncesInScheme0Alone();
        headOfAnEmptyList();
        onWithoutHere();
        nameInSlot1IfSlot0NamesBack();
        checkOfAnotherLink();
        checkOfAMarkedLink();
        checkAtTheEnd();
        checkFindsNothing();
        readOfAMarkedLinkBeforeItsKey();
        readOfLessEqualAndGreater();
        cutAtTheListAndBehindABlock();
        cutOfAnotherLink();
        cutOfAMarkedLink();
        insertOfWhatIsThere();
        insertOfWhatCameFirst();
        insertWithoutRoom();
        insertWithoutRoomButWithANewBlock();
        removeOfWhatIsNotThere();
        removeOfAnotherLink();
        removeOfAMarkedLink();
        hangOfAnotherLink();
        hangOfAMarkedLink();
        unhangOfAnotherLink();
        unhangOfAMarkedLink();
        endSaysNothing();
        Due.end();
    }

    /** "BLOCKS are 1 .. 20", "the free block with the least number is taken". */
    private static void blocksAre1To20() {
        for (int scheme = 0; scheme < 3; scheme++) {
            SteppedList x = new SteppedList(scheme);
            for (int b = 1; b <= 20; b++) {
                Due.states(x, b, 0);
                Due.is("INSERT " + b, Lists.insert(x, 0, b), 1);
                Due.block(x, b, 1, b, 0, 0, 1, -1);
            }
            Due.is("INSERT of one more", Lists.insert(x, 0, 21), 2);
            Due.is("size of a full list", x.size(), 20);
            Due.is("last link of a full list", x.block(20, 2), 0);
        }
    }

    /** "it has a KEY, 0 .. 31". */
    private static void keysAre0To31() {
        for (int scheme = 0; scheme < 3; scheme++) {
            SteppedList x = Lists.of(scheme, 0, 31);
            Due.block(x, 1, 1, 0, 2, 0, 1, -1);
            Due.block(x, 2, 1, 31, 0, 0, 1, -1);
            Due.is("FIND 0", Lists.find(x, 1, 0), 1);
            Due.is("FIND 31", Lists.find(x, 1, 31), 1);
            Due.is("REMOVE 31", Lists.remove(x, 1, 31), 1);
            Due.is("REMOVE 0", Lists.remove(x, 1, 0), 1);
            Due.is("size", x.size(), 0);
        }
    }

    /** "FREE (at first)", "0 at first", "0, not marked, at first": no key 0 is in the list. */
    private static void everythingIs0AtFirst() {
        SteppedList x = new SteppedList(0);
        for (int b = 1; b <= 20; b++) {
            Due.block(x, b, 0, 0, 0, 0, 0, -1);
        }
        Due.is("has(0)", x.has(0), false);
        Due.is("FIND 0", Lists.find(x, 0, 0), 0);
    }

    /** "There is a link 0 besides, of the list itself, never marked." */
    private static void linkOfTheListIsNeverMarked() {
        SteppedList x = Lists.of(0, 5);
        x.begin(1, 1, 3);
        Due.steps(x, 1, 2, 4, 5, 7, 8);
        x.begin(2, 2, 5);
        Due.steps(x, 2, 2, 4, 5, 7, 10);
        Due.block(x, 1, 1, 5, 0, 1, 1, -1);
        Due.block(x, 0, -1, -1, 1, -1, -1, -1);
        Due.steps(x, 1, 9, 0);
        Due.is("link 0", x.block(0, 2), 2);
        Due.block(x, 2, 1, 3, 1, 0, 1, -1);
    }

    /** "Whatever becomes of a block, key and link stay until they are changed as said below." */
    private static void keyAndLinkStay() {
        SteppedList[] each = {Lists.of(0, 4, 6), Lists.of(1, 4, 6), Lists.of(2, 4, 6)};
        for (SteppedList x : each) {
            Lists.remove(x, 0, 4);
        }
        Due.block(each[0], 1, 2, 4, 2, 1, 1, 0);
        Due.block(each[1], 1, 2, 4, 2, 1, 1, 0);
        each[0].advance();
        each[0].advance();
        each[1].scan(0);
        for (SteppedList x : each) {
            Due.block(x, 1, 0, 4, 2, 1, 1, -1);
            // The link is unmarked when the block is taken anew.
            Lists.insert(x, 0, 7);
            Due.block(x, 1, 1, 7, 0, 0, 2, -1);
        }
    }

    /** "a LIFE, how often it was taken": not how often it was given free. */
    private static void lifeIsHowOftenItWasTaken() {
        SteppedList x = new SteppedList(2);
        for (int life = 1; life <= 5; life++) {
            Lists.insert(x, 0, 9);
            Due.is("life when it is taken", x.block(1, 4), life);
            Lists.remove(x, 0, 9);
            Due.is("life when it is free", x.block(1, 4), life);
        }
    }

    /** "what it knows of an earlier operation is forgotten when one begins". */
    private static void whatWasKnownIsForgotten() {
        SteppedList x = Lists.of(0, 1, 2, 3);
        Due.known(x, 0, 2, 0, 0, 3);
        Lists.find(x, 1, 2);
        Due.known(x, 1, 1, 2, 3, 0);
        for (int t = 0; t < 2; t++) {
            x.begin(t, 0, 0);
            Due.known(x, t, 0, 0, 0, 0);
        }
    }

    /** "1 START: scheme 0: the thread announces the EPOCH." */
    private static void startAnnouncesInScheme0Alone() {
        for (int scheme = 0; scheme < 3; scheme++) {
            SteppedList x = new SteppedList(scheme);
            x.begin(3, 0, 0);
            Due.says(x, 3, -1, -1, -1);
            Due.steps(x, 3, 2);
            Due.says(x, 3, -1, -1, scheme == 0 ? 0 : -1);
        }
    }

    /** "2 HEAD: BACK becomes 0, HERE what link 0 says", which is 0 when the list is empty. */
    private static void headOfAnEmptyList() {
        for (int scheme = 0; scheme < 3; scheme++) {
            SteppedList x = new SteppedList(scheme);
            for (int operation = 0; operation < 3; operation += 2) {
                x.begin(0, operation, 31);
                Due.steps(x, 0, 2, 4);
                Due.known(x, 0, 0, 0, 0, 0);
                Due.steps(x, 0, 7, 9, 0);
                Due.is("result in an empty list", x.result(0), 0);
            }
        }
    }

    /** "Then ON: 3 in scheme 1 if HERE is not 0, otherwise 4", behind HEAD, READ and CUT. */
    private static void onWithoutHere() {
        SteppedList x = Lists.of(1, 5, 6);
        x.begin(1, 0, 7);
        Due.steps(x, 1, 2, 3, 4, 5, 3, 4, 5, 4, 7, 9, 0);
        x.begin(2, 2, 5);
        Due.steps(x, 2, 2, 3, 4, 5, 7, 10);
        x.begin(1, 0, 6);
        Due.steps(x, 1, 2, 3, 4, 5, 6, 3, 4, 5, 7, 9, 0);
        Due.is("FIND 6 past a cut", x.result(1), 1);
        x.begin(3, 2, 6);
        Due.steps(x, 3, 2, 3, 4, 5, 7, 10);
        x.begin(1, 0, 6);
        Due.steps(x, 1, 2, 3, 4, 5, 6, 4, 7, 9, 0);
        Due.is("FIND 6 that is cut", x.result(1), 0);
    }

    /** "in its slot 1 if slot 0 names BACK (and BACK is not 0), otherwise in slot 0". */
    private static void nameInSlot1IfSlot0NamesBack() {
        SteppedList x = Lists.of(1, 1, 2, 3);
        x.begin(1, 0, 9);
        Due.steps(x, 1, 2, 3, 4);
        Due.says(x, 1, 1, -1, -1);
        Due.steps(x, 1, 5, 3, 4);
        Due.says(x, 1, 1, 2, -1);
        Due.steps(x, 1, 5, 3, 4);
        Due.says(x, 1, 3, 2, -1);
        Lists.remove(x, 0, 3);
        // HEAD empties no slot, but with BACK 0 it is slot 0 whatever that one names.
        Due.steps(x, 1, 2, 3);
        Due.says(x, 1, 3, 2, -1);
        Due.steps(x, 1, 4);
        Due.says(x, 1, 1, 2, -1);
        Due.steps(x, 1, 5, 3, 4);
        Due.says(x, 1, 1, 2, -1);
    }

    /** "4 CHECK: if BACK's link is not HERE, unmarked: 2": it is another block. */
    private static void checkOfAnotherLink() {
        SteppedList x = Lists.of(0, 1, 3);
        x.begin(1, 0, 9);
        Due.steps(x, 1, 2, 4, 5, 4);
        Lists.insert(x, 0, 2);
        Due.known(x, 1, 1, 2, 2, 0);
        Due.steps(x, 1, 2, 4, 5, 4);
        Due.known(x, 1, 1, 3, 3, 0);
        // The same at link 0.
        x.begin(2, 0, 9);
        Due.steps(x, 2, 2, 4);
        Lists.insert(x, 0, 0);
        Due.steps(x, 2, 2);
    }

    /** "4 CHECK: if BACK's link is not HERE, unmarked: 2": it is HERE, but marked. */
    private static void checkOfAMarkedLink() {
        SteppedList x = Lists.of(0, 1, 3);
        x.begin(1, 0, 9);
        Due.steps(x, 1, 2, 4, 5, 4);
        x.begin(2, 2, 1);
        Due.steps(x, 2, 2, 4, 5, 7, 10);
        Due.block(x, 1, 1, 1, 2, 1, 1, -1);
        Due.steps(x, 1, 2);
    }

    /** The same when HERE is 0: the end of the list is where it was only if the link says so. */
    private static void checkAtTheEnd() {
        SteppedList empty = new SteppedList(0);
        empty.begin(1, 0, 5);
        Due.steps(empty, 1, 2, 4);
        Lists.insert(empty, 0, 5);
        Due.steps(empty, 1, 2, 4, 5, 7, 9, 0);
        Due.is("FIND 5", empty.result(1), 1);
        SteppedList longer = Lists.of(0, 5);
        longer.begin(1, 0, 9);
        Due.steps(longer, 1, 2, 4, 5, 4);
        Lists.insert(longer, 0, 9);
        Due.steps(longer, 1, 2);
        SteppedList marked = Lists.of(0, 5);
        marked.begin(1, 0, 9);
        Due.steps(marked, 1, 2, 4, 5, 4);
        marked.begin(2, 2, 5);
        Due.steps(marked, 2, 2, 4, 5, 7, 10);
        Due.steps(marked, 1, 2);
    }

    /** "if HERE is 0: nothing is found", also if something was found before. */
    private static void checkFindsNothing() {
        SteppedList x = Lists.of(0, 5);
        x.begin(1, 2, 5);
        Due.steps(x, 1, 2, 4, 5, 7);
        Lists.remove(x, 2, 5);
        Due.steps(x, 1, 2, 4, 7, 9, 0);
        Due.is("REMOVE 5 when it is gone", x.result(1), 0);
    }

    /** "5 READ: .. If this is marked: 6", whatever the key is. */
    private static void readOfAMarkedLinkBeforeItsKey() {
        for (int key = 4; key <= 6; key++) {
            SteppedList x = Lists.of(0, 5);
            x.begin(2, 2, 5);
            Due.steps(x, 2, 2, 4, 5, 7, 10);
            x.begin(1, 0, key);
            Due.steps(x, 1, 2, 4, 5, 6, 4, 7, 9, 0);
            Due.is("FIND " + key, x.result(1), 0);
        }
    }

    /** "if HERE's key is K or greater: found is whether it is K". */
    private static void readOfLessEqualAndGreater() {
        SteppedList x = Lists.of(0, 5);
        x.begin(1, 0, 4);
        Due.steps(x, 1, 2, 4, 5, 7, 9, 0);
        Due.is("FIND 4", x.result(1), 0);
        x.begin(1, 0, 5);
        Due.steps(x, 1, 2, 4, 5, 7, 9, 0);
        Due.is("FIND 5", x.result(1), 1);
        x.begin(1, 0, 6);
        Due.steps(x, 1, 2, 4, 5, 4);
        Due.known(x, 1, 1, 0, 0, 0);
        Due.steps(x, 1, 7, 9, 0);
        Due.is("FIND 6", x.result(1), 0);
        // What was found before is found no more when a greater key stands there.
        Lists.insert(x, 0, 7);
        x.begin(1, 2, 5);
        Due.steps(x, 1, 2, 4, 5, 7);
        Lists.remove(x, 2, 5);
        Due.steps(x, 1, 2, 4, 5, 7, 9, 0);
        Due.is("REMOVE 5 when 7 stands there", x.result(1), 0);
        Due.is("has(7)", x.has(7), true);
    }

    /** "6 CUT: if BACK's link is HERE, unmarked: it becomes NEXT": of the list, and of a block. */
    private static void cutAtTheListAndBehindABlock() {
        for (int key = 1; key <= 2; key++) {
            SteppedList x = Lists.of(0, 1, 2, 3);
            x.begin(2, 2, key);
            Lists.until(x, 2, 10);
            x.begin(1, 0, 9);
            Lists.until(x, 1, 6);
            Due.known(x, 1, key - 1, key, key + 1, 0);
            Due.block(x, key, 1, key, key + 1, 1, 1, -1);
            Due.steps(x, 1, 4);
            Due.known(x, 1, key - 1, key + 1, key + 1, 0);
            Due.is("link of BACK", x.block(key - 1, 2), key + 1);
            Due.block(x, key, 2, key, key + 1, 1, 1, 0);
        }
    }

    /** "6 CUT: .. Otherwise 2": another thread took HERE out, and it is retired once. */
    private static void cutOfAnotherLink() {
        SteppedList x = Lists.of(0, 5);
        x.begin(2, 2, 5);
        Due.steps(x, 2, 2, 4, 5, 7, 10);
        x.begin(1, 0, 9);
        Due.steps(x, 1, 2, 4, 5, 6);
        Due.steps(x, 2, 9, 0);
        x.advance();
        Due.steps(x, 1, 2);
        Due.block(x, 1, 2, 5, 0, 1, 1, 0);
        Due.is("link 0", x.block(0, 2), 0);
    }

    /** "6 CUT: .. Otherwise 2": BACK leads to HERE, but is marked; so 10, in the same case. */
    private static void cutOfAMarkedLink() {
        SteppedList x = Lists.of(0, 1, 2);
        x.begin(2, 2, 2);
        Due.steps(x, 2, 2, 4, 5, 4, 5, 7, 10);
        x.begin(1, 0, 9);
        Due.steps(x, 1, 2, 4, 5, 4, 5, 6);
        x.begin(3, 2, 1);
        Due.steps(x, 3, 2, 4, 5, 7, 10);
        Due.steps(x, 1, 2);
        Due.block(x, 1, 1, 1, 2, 1, 1, -1);
        Due.block(x, 2, 1, 2, 0, 1, 1, -1);
        Due.steps(x, 1, 4, 5, 6, 4, 5, 6, 4, 7, 9, 0);
        Due.states(x, 1, 2, 2);
    }

    /** "INSERT: if it was found, the new block, if there is one, is free again". */
    private static void insertOfWhatIsThere() {
        SteppedList x = Lists.of(0, 5);
        x.begin(1, 1, 5);
        Due.steps(x, 1, 2, 4, 5, 7, 9, 0);
        Due.is("INSERT of what is there", x.result(1), 0);
        Due.states(x, 1, 1, 0);
        // Thread 1 has a new block when thread 2 comes first.
        x.begin(1, 1, 7);
        Due.steps(x, 1, 2, 4, 5, 4, 7, 8);
        Due.block(x, 2, 1, 7, 0, 0, 1, -1);
        Lists.insert(x, 2, 7);
        Due.steps(x, 1, 2, 4, 5, 4, 5, 7);
        Due.known(x, 1, 1, 3, 0, 2);
        Due.steps(x, 1, 9);
        Due.known(x, 1, 1, 3, 0, 0);
        Due.block(x, 2, 0, 7, 0, 0, 1, -1);
        Due.steps(x, 1, 0);
        Due.is("INSERT of what came first", x.result(1), 0);
        // It is the least free one again.
        Lists.insert(x, 1, 8);
        Due.block(x, 2, 1, 8, 0, 0, 2, -1);
    }

    /** The same in an empty list, where block 1 is the new one. */
    private static void insertOfWhatCameFirst() {
        SteppedList x = new SteppedList(0);
        x.begin(1, 1, 5);
        Due.steps(x, 1, 2, 4, 7, 8);
        Lists.insert(x, 2, 5);
        Due.states(x, 1, 1, 1);
        Due.steps(x, 1, 2, 4, 5, 7, 9);
        Due.known(x, 1, 0, 2, 0, 0);
        Due.states(x, 1, 0, 1);
        Due.steps(x, 1, 0);
        Due.is("INSERT of what came first", x.result(1), 0);
    }

    /** "if there is none, the result is NO ROOM": retired blocks are not free either. */
    private static void insertWithoutRoom() {
        SteppedList x = new SteppedList(0);
        for (int i = 0; i < 20; i++) {
            Lists.insert(x, 0, 7);
            Lists.remove(x, 0, 7);
        }
        Due.is("size", x.size(), 0);
        x.begin(1, 1, 7);
        Due.steps(x, 1, 2, 4, 7, 9);
        Due.known(x, 1, 0, 0, 0, 0);
        Due.steps(x, 1, 0);
        Due.is("INSERT without room", x.result(1), 2);
        x.advance();
        Due.is("INSERT one epoch later", Lists.insert(x, 1, 7), 2);
        x.advance();
        Due.is("INSERT two epochs later", Lists.insert(x, 1, 7), 1);
        Due.block(x, 1, 1, 7, 0, 0, 2, -1);
    }

    /** "Otherwise, if there is no new block, ..": who has one needs no free block. */
    private static void insertWithoutRoomButWithANewBlock() {
        SteppedList x = new SteppedList(0);
        for (int key = 0; key < 19; key++) {
            Lists.insert(x, 0, key);
        }
        x.begin(1, 1, 31);
        Lists.until(x, 1, 8);
        Due.known(x, 1, 19, 0, 0, 20);
        Due.is("INSERT of another thread", Lists.insert(x, 2, 30), 2);
        Lists.remove(x, 3, 18);
        Due.steps(x, 1, 2);
        Lists.until(x, 1, 7);
        Due.steps(x, 1, 8, 9, 0);
        Due.is("INSERT with a new block", x.result(1), 1);
        Due.block(x, 20, 1, 31, 0, 0, 1, -1);
        Due.is("link of the last one before", x.block(18, 2), 20);
    }

    /** "REMOVE: if it was not found, the result is false". */
    private static void removeOfWhatIsNotThere() {
        SteppedList x = Lists.of(0, 5);
        x.begin(1, 2, 4);
        Due.steps(x, 1, 2, 4, 5, 7, 9, 0);
        Due.is("REMOVE 4", x.result(1), 0);
        x.begin(1, 2, 6);
        Due.steps(x, 1, 2, 4, 5, 4, 7, 9, 0);
        Due.is("REMOVE 6", x.result(1), 0);
        Due.block(x, 1, 1, 5, 0, 0, 1, -1);
    }

    /** "if HERE's link is NEXT, unmarked: ..; if not: 2": it is another block by now. */
    private static void removeOfAnotherLink() {
        SteppedList x = Lists.of(0, 5);
        x.begin(1, 2, 5);
        Due.steps(x, 1, 2, 4, 5, 7);
        Lists.insert(x, 0, 6);
        Due.steps(x, 1, 2);
        Due.block(x, 1, 1, 5, 2, 0, 1, -1);
        Due.steps(x, 1, 4, 5, 7, 10);
        Due.block(x, 1, 1, 5, 2, 1, 1, -1);
        Due.steps(x, 1, 9, 0);
        Due.is("REMOVE 5", x.result(1), 1);
    }

    /** "if HERE's link is NEXT, unmarked: ..; if not: 2": another thread marked it before. */
    private static void removeOfAMarkedLink() {
        SteppedList x = Lists.of(0, 5, 6);
        x.begin(1, 2, 5);
        x.begin(2, 2, 5);
        Due.steps(x, 1, 2, 4, 5, 7);
        Due.steps(x, 2, 2, 4, 5, 7, 10);
        Due.steps(x, 1, 2, 4, 5, 6, 4, 5, 7, 9, 0);
        Due.steps(x, 2, 9, 0);
        Due.is("REMOVE 5 of the later thread", x.result(1), 0);
        Due.is("REMOVE 5 of the first thread", x.result(2), 1);
        Due.states(x, 1, 2, 1);
    }

    /** "8 HANG: .. Otherwise 2": something else was hung there, or HERE was taken out. */
    private static void hangOfAnotherLink() {
        SteppedList x = Lists.of(0, 5);
        x.begin(1, 1, 9);
        Due.steps(x, 1, 2, 4, 5, 4, 7, 8);
        Lists.insert(x, 0, 8);
        Due.steps(x, 1, 2);
        Due.known(x, 1, 1, 0, 0, 2);
        Due.steps(x, 1, 4, 5, 4, 5, 4, 7, 8, 9, 0);
        Due.block(x, 2, 1, 9, 0, 0, 1, -1);
        Due.block(x, 3, 1, 8, 2, 0, 1, -1);
        x.begin(1, 1, 4);
        Due.steps(x, 1, 2, 4, 5, 7, 8);
        Lists.remove(x, 0, 5);
        Due.steps(x, 1, 2, 4, 5, 7, 8);
        Due.block(x, 4, 1, 4, 3, 0, 1, -1);
    }

    /** "8 HANG: .. Otherwise 2": BACK leads to HERE, but is marked. */
    private static void hangOfAMarkedLink() {
        SteppedList x = Lists.of(0, 5);
        x.begin(1, 1, 9);
        Due.steps(x, 1, 2, 4, 5, 4, 7, 8);
        x.begin(2, 2, 5);
        Due.steps(x, 2, 2, 4, 5, 7, 10);
        Due.steps(x, 1, 2);
        Due.block(x, 1, 1, 5, 0, 1, 1, -1);
        Due.steps(x, 1, 4, 5, 6, 4, 7, 8, 9, 0);
        Due.is("INSERT 9", x.result(1), 1);
        Due.is("link 0", x.block(0, 2), 2);
    }

    /** "10 UNHANG: the result is true", if BACK's link is not HERE too; nothing is retired then. */
    private static void unhangOfAnotherLink() {
        SteppedList x = Lists.of(0, 5);
        x.begin(1, 2, 5);
        Due.steps(x, 1, 2, 4, 5, 7, 10);
        x.begin(2, 1, 4);
        Due.steps(x, 2, 2, 4, 5, 6, 4, 7, 8, 9, 0);
        x.advance();
        Due.steps(x, 1, 9, 0);
        Due.is("REMOVE 5", x.result(1), 1);
        Due.block(x, 1, 2, 5, 0, 1, 1, 0);
        Due.is("link 0", x.block(0, 2), 2);
    }

    /** "10 UNHANG: the result is true", if BACK is marked too; HERE stays where it is then. */
    private static void unhangOfAMarkedLink() {
        SteppedList x = Lists.of(0, 1, 2);
        x.begin(2, 2, 2);
        Due.steps(x, 2, 2, 4, 5, 4, 5, 7, 10);
        x.begin(3, 2, 1);
        Due.steps(x, 3, 2, 4, 5, 7, 10);
        Due.steps(x, 2, 9, 0);
        Due.is("REMOVE 2", x.result(2), 1);
        Due.block(x, 1, 1, 1, 2, 1, 1, -1);
        Due.block(x, 2, 1, 2, 0, 1, 1, -1);
        Due.steps(x, 3, 9, 0);
        Due.is("link 0", x.block(0, 2), 2);
        Due.states(x, 1, 2, 1);
        Due.is("size", x.size(), 0);
    }

    /** "scheme 0: the thread announces nothing any more; scheme 1: its slots name nothing." */
    private static void endSaysNothing() {
        SteppedList x = Lists.of(0, 5);
        x.begin(1, 0, 5);
        Due.steps(x, 1, 2, 4, 5, 7, 9);
        Due.says(x, 1, -1, -1, 0);
        Due.steps(x, 1, 0);
        Due.says(x, 1, -1, -1, -1);
        SteppedList y = Lists.of(1, 5, 6);
        y.begin(1, 0, 6);
        y.begin(2, 0, 6);
        Due.steps(y, 1, 2, 3, 4, 5, 3, 4, 5, 7, 9);
        Due.steps(y, 2, 2, 3, 4);
        Due.says(y, 1, 1, 2, -1);
        Due.steps(y, 1, 0);
        Due.says(y, 1, -1, -1, -1);
        Due.says(y, 2, 1, -1, -1);
    }
}
