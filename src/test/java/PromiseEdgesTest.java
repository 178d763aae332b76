/**
 * The edges that the promises name, one method for each sentence, the sentence standing above it: the
 * least, the greatest, the empty, the full, the first and the last that are still answered. Those that
 * are refused are in RefusedCallsTest.
 */
public final class PromiseEdgesTest {
    public static void main(String[] args) {
        promise1EachObjectIsNew();
        promise2BytesFrom0To255();
        promise2AtMost64();
        promise2RoomIsThereAgain();
        promise3NothingCollected();
        promise3TwelveBytes();
        promise3TheWholeContent();
        promise3ItIsGoneWith1();
        promise3ItIsGoneWithEachCheck();
        promise3NoneComesBeforeTheChecks();
        promise3WhatStaysIsWrittenLater();
        promise4EmptyAndFull();
        promise4NoneComesBeforeTheChecks();
        promise4TheFirstAndTheLastOfBoth();
        promise5BeforeAnyRead();
        promise5TheLastByte();
        promise5AShorterReadBehindALonger();
        promise5OnlyReadsThatWereWell();
        promise5WhatIsReadStays();
        promise6WhichOne();
        promise6LikeTheOneThatThereIs();
        promise6NobodyIsShownIt();
        promise6WorldsGoApart();
        promise7TheOneBefore();
        promise7TheFirstAndTheLast();
        promise8OfAnotherOne();
        promise8ItsOwnOnceMore();
        promise8BetweenTheFirstAndTheLast();
        promise9MasksFrom1To255();
        promise9TheFirstAndTheLastByte();
        promise9OneStatementAlone();
        promise10MasksFrom1To255();
        promise10TheFirstAndTheLastByte();
        promise10BehindTheEndOfEachLength();
        promise10OneWorldAlone();
        promise11NotAboveOneWayIsEnough();
        promise11WhatTheyRemember();
        promise12EveryWorldAndTheOneRemembered();
        promise13EachCount();
        promise14WhatWasCollectedStays();
        promise14NothingCollected();
        promise15ANewObject();
        promise15AsManyOperationsAsThereCanBe();
        promise15WhenSomethingWasChanged();
        promise15SixWorldsAndFourClients();
        promise16Worlds();
        promise16OperationsWellAndStopped();
        promise16BytesCollected();
        promise16TheWorldShownToEach();
        Expect.end();
    }

    private static ForkWatch withSixWorlds() {
        ForkWatch x = new ForkWatch();
        for (int world = 1; world < 6; world++) {
            Expect.due("split(0)", x.split(0), world);
        }
        return x;
    }

    /** "World 0 as at first": also when another object was used before. */
    private static void promise1EachObjectIsNew() {
        String before = Look.at(x -> { });
        ForkWatch used = withSixWorlds();
        Calls.put(used, 0, 0, Calls.bytes(12));
        Calls.readsAs(used, 3, 0, Calls.bytes(12));
        used.show(0, 5);
        used.spoil(0, 0, 0, 255);
        used.poke(0, 1, 83, 255);
        Calls.feedAll(used, 1, 2, 3);
        Expect.due("a new object is like the first one", Look.at(x -> { }).equals(before), true);
    }

    /** "A byte, 0 .. 255, is collected." */
    private static void promise2BytesFrom0To255() {
        for (int b = 0; b < 256; b++) {
            ForkWatch x = new ForkWatch();
            Calls.put(x, 0, 0, b);
            Calls.readsAs(x, 0, 0, b);
        }
    }

    /** "At most 64. False: .. no room." */
    private static void promise2AtMost64() {
        ForkWatch x = new ForkWatch();
        for (int i = 0; i < 64; i++) {
            Expect.due("collected before feed " + (i + 1), x.count(3), i);
            Expect.due("feed " + (i + 1), x.feed(255 - i), true);
        }
        Expect.due("collected", x.count(3), 64);
        Expect.due("feed 65", x.feed(0), false);
        Expect.due("collected still", x.count(3), 64);
        byte[] all = new byte[64];
        for (int i = 0; i < 64; i++) {
            all[i] = (byte) (255 - i);
        }
        Expect.due("the first 64 are collected", x.digest(0, 31), Model.sha(all)[31] & 255);
    }

    /** "At most 64": what is gone makes room. */
    private static void promise2RoomIsThereAgain() {
        ForkWatch x = new ForkWatch();
        for (int turn = 0; turn < 2; turn++) {
            Calls.put(x, 0, 0, Calls.bytes(12));
        }
        Calls.feedAll(x, Calls.bytes(64));
        Expect.due("feed without room", x.feed(1), false);
    }

    /** "Writes what was collected": nothing is fine too. */
    private static void promise3NothingCollected() {
        ForkWatch x = new ForkWatch();
        Expect.due("write of nothing", x.write(0, 0), 1);
        Calls.readsAs(x, 0, 0);
        Calls.put(x, 0, 0, Calls.bytes(12));
        Expect.due("write of nothing to a full file", x.write(0, 0), 1);
        Calls.readsAs(x, 0, 0);
    }

    /** "More than 12 bytes": 12 are not more. */
    private static void promise3TwelveBytes() {
        for (int length = 0; length <= 64; length++) {
            ForkWatch x = new ForkWatch();
            Calls.feedAll(x, Calls.bytes(length));
            Expect.due("write of " + length, x.write(3, 15), length <= 12 ? 1 : ForkWatch.NONE);
            Expect.due("collected behind it", x.count(3), length <= 12 ? 0 : length);
            Calls.readsAs(x, 3, 15, Calls.bytes(length <= 12 ? length : 0));
        }
    }

    /** "To a file (its whole content)": whatever the lengths before and after are. */
    private static void promise3TheWholeContent() {
        for (int before = 0; before <= 12; before++) {
            for (int after = 0; after <= 12; after++) {
                ForkWatch x = new ForkWatch();
                Calls.put(x, 0, 9, Calls.bytes(before));
                Calls.put(x, 1, 9, Calls.bytes(after));
                Calls.readsAs(x, 2, 9, Calls.bytes(after));
                Calls.readsAs(x, 2, 8);
                Calls.readsAs(x, 2, 10);
            }
        }
    }

    /** "And it is gone: 1." */
    private static void promise3ItIsGoneWith1() {
        ForkWatch x = new ForkWatch();
        Calls.put(x, 0, 0, 1, 2, 3);
        Expect.due("collected", x.count(3), 0);
        Calls.put(x, 0, 1, 4);
        Calls.readsAs(x, 0, 1, 4);
    }

    /** "And it is gone: .. or what a check tells." */
    private static void promise3ItIsGoneWithEachCheck() {
        for (int check = 1; check <= 4; check++) {
            ForkWatch x = new ForkWatch();
            Calls.put(x, 0, 0, 1);
            makeFault(x, check);
            Calls.feedAll(x, Calls.bytes(12));
            Expect.due("write by client 1", x.write(1, 3), -1 - check);
            Expect.due("collected behind check " + check, x.count(3), 0);
        }
    }

    /** Such that in the world that client 1 is shown this check stops it, and none before it. */
    private static void makeFault(ForkWatch x, int check) {
        if (check == 1) {
            x.poke(0, 2, 20, 1);
        } else if (check == 4) {
            x.spoil(0, 0, 0, 1);
        } else {
            x.split(0);
            int moved = check == 2 ? 1 : 2;
            x.show(moved, 1);
            Expect.due("read by client " + moved, x.read(moved, 0), 1);
            x.show(moved, 0);
            if (check == 3) {
                Expect.due("read by client 0", x.read(0, 0), 1);
                x.graft(0, 2, 1);
            }
        }
    }

    /** "NONE: no such client, file; more than 12 bytes": no operation is begun, so no check tells. */
    private static void promise3NoneComesBeforeTheChecks() {
        for (int check = 1; check <= 4; check++) {
            ForkWatch x = new ForkWatch();
            Calls.put(x, 0, 0, 1);
            makeFault(x, check);
            Calls.feedAll(x, Calls.bytes(12));
            Expect.due("no such file", x.write(1, 16), ForkWatch.NONE);
            Expect.due("no such client", x.write(4, 0), ForkWatch.NONE);
            Calls.feedAll(x, 1);
            Expect.due("more than 12 bytes", x.write(1, 0), ForkWatch.NONE);
            Expect.due("they stay", x.count(3), 13);
            Expect.due("stopped by a check", x.count(2), 0);
        }
    }

    /** "It stays collected then": whole and in its order. */
    private static void promise3WhatStaysIsWrittenLater() {
        ForkWatch x = new ForkWatch();
        Calls.feedAll(x, 3, 1, 2);
        Expect.due("no such client", x.write(-1, 0), ForkWatch.NONE);
        Expect.due("no such file", x.write(0, -1), ForkWatch.NONE);
        Calls.feedAll(x, 0);
        Expect.due("write", x.write(0, 0), 1);
        Calls.readsAs(x, 0, 0, 3, 1, 2, 0);
    }

    /** "Its length": 0 to 12. */
    private static void promise4EmptyAndFull() {
        for (int length = 0; length <= 12; length++) {
            ForkWatch x = new ForkWatch();
            Calls.put(x, 1, 4, Calls.bytes(length));
            Expect.due("read", x.read(2, 4), length);
        }
    }

    /** "NONE: no such client, file": no operation is begun, so no check tells. */
    private static void promise4NoneComesBeforeTheChecks() {
        for (int check = 1; check <= 4; check++) {
            ForkWatch x = new ForkWatch();
            Calls.put(x, 0, 0, 1);
            makeFault(x, check);
            Expect.due("no such file", x.read(1, 16), ForkWatch.NONE);
            Expect.due("no such client", x.read(4, 0), ForkWatch.NONE);
            Expect.due("stopped by a check", x.count(2), 0);
            Expect.due("read", x.read(1, 0), -1 - check);
            Expect.due("stopped by a check", x.count(2), 1);
        }
    }

    /** "No such client, file": the first and the last there are. */
    private static void promise4TheFirstAndTheLastOfBoth() {
        ForkWatch x = new ForkWatch();
        Calls.put(x, 3, 0, 1);
        Calls.put(x, 0, 15, 2);
        Calls.readsAs(x, 0, 0, 1);
        Calls.readsAs(x, 3, 15, 2);
    }

    /** "What the last read() .. read. BAD: none such": there was none. */
    private static void promise5BeforeAnyRead() {
        ForkWatch x = new ForkWatch();
        Expect.due("got(0)", x.got(0), ForkWatch.BAD);
        Calls.put(x, 0, 0, 7);
        Expect.due("got(0) behind a write", x.got(0), ForkWatch.BAD);
        Calls.feedAll(x, 8);
        Expect.due("got(0) when something is collected", x.got(0), ForkWatch.BAD);
    }

    /** "BAD: none such": the byte behind the last one, for each length. */
    private static void promise5TheLastByte() {
        for (int length = 1; length <= 12; length++) {
            ForkWatch x = new ForkWatch();
            Calls.put(x, 0, 0, Calls.bytes(length));
            Calls.readsAs(x, 1, 0, Calls.bytes(length));
            Expect.due("got(- 1)", x.got(-1), ForkWatch.BAD);
        }
    }

    /** "The last read()": of a longer one before it nothing is left. */
    private static void promise5AShorterReadBehindALonger() {
        ForkWatch x = new ForkWatch();
        Calls.put(x, 0, 0, Calls.bytes(12));
        Calls.put(x, 0, 1, 9);
        Calls.readsAs(x, 0, 0, Calls.bytes(12));
        Calls.readsAs(x, 0, 1, 9);
        Expect.due("got(11)", x.got(11), ForkWatch.BAD);
        Calls.readsAs(x, 0, 2);
        Expect.due("got(0) behind a read of nothing", x.got(0), ForkWatch.BAD);
    }

    /** "The last read() that was well": not one that a check stopped or that was refused. */
    private static void promise5OnlyReadsThatWereWell() {
        for (int check = 1; check <= 4; check++) {
            ForkWatch x = new ForkWatch();
            Calls.put(x, 0, 1, 6, 7);
            Calls.put(x, 0, 0, 5);
            Calls.readsAs(x, 3, 0, 5);
            makeFault(x, check);
            Expect.due("a read that is stopped", x.read(1, 1), -1 - check);
            Expect.due("a read that is refused", x.read(1, 16), ForkWatch.NONE);
            Expect.due("got(0) of the read of file 0", x.got(0), 5);
            Expect.due("got(1)", x.got(1), ForkWatch.BAD);
        }
    }

    /** "What the last read() .. read": the bytes as they were then. */
    private static void promise5WhatIsReadStays() {
        ForkWatch x = new ForkWatch();
        Calls.put(x, 0, 0, 5);
        Calls.readsAs(x, 0, 0, 5);
        x.spoil(0, 0, 0, 255);
        Expect.due("got(0) when the file was spoilt", x.got(0), 5);
        x.spoil(0, 0, 0, 255);
        Calls.put(x, 0, 0, 8, 9);
        Expect.due("got(0) when the file was written", x.got(0), 5);
        Expect.due("got(1)", x.got(1), ForkWatch.BAD);
    }

    /** "One more world .. : which one. BAD: .. there are 6." */
    private static void promise6WhichOne() {
        for (int like = 0; like < 5; like++) {
            ForkWatch x = new ForkWatch();
            for (int world = 1; world < 6; world++) {
                int one = Math.min(like, world - 1);
                Expect.due("split(" + one + ")", x.split(one), world);
                Expect.due("worlds", x.count(0), world + 1);
            }
            Expect.due("a seventh one", x.split(like), ForkWatch.BAD);
            Expect.due("worlds", x.count(0), 6);
        }
    }

    /** "Like one that there is": with what was changed in it, and with its files. */
    private static void promise6LikeTheOneThatThereIs() {
        for (int like = 0; like < 2; like++) {
            ForkWatch x = new ForkWatch();
            x.split(0);
            Calls.put(x, 0, 15, Calls.bytes(12));
            x.poke(1, 3, 83, 128);
            Expect.due("split", x.split(like), 2);
            for (int i = 0; i < 84; i++) {
                Expect.due("byte " + i + " of client 0", x.statement(2, 0, i), x.statement(like, 0, i));
                Expect.due("byte " + i + " of client 3", x.statement(2, 3, i), x.statement(like, 3, i));
            }
            Expect.due("the last byte of file 15", x.spoil(2, 15, 11, 1), like == 0);
            Expect.due("file 14", x.spoil(2, 14, 0, 1), false);
        }
    }

    /** "One more world": each client is shown what it was shown before. */
    private static void promise6NobodyIsShownIt() {
        ForkWatch x = withSixWorlds();
        for (int c = 0; c < 4; c++) {
            Expect.due("world shown to client " + c, x.count(4 + c), 0);
        }
    }

    /** "Like one": what comes later to one of them does not come to the other. */
    private static void promise6WorldsGoApart() {
        for (int operates = 0; operates < 2; operates++) {
            ForkWatch x = new ForkWatch();
            Calls.put(x, 0, 0, 1);
            x.split(0);
            x.show(1, operates);
            Calls.put(x, 1, 0, 2);
            x.show(2, 1 - operates);
            Calls.readsAs(x, 2, 0, 1);
            Calls.seesAs(x, 2, 1, 0, 1, 0);
        }
    }

    /** "A client is shown a world: the one before", also when it is the same. */
    private static void promise7TheOneBefore() {
        ForkWatch x = withSixWorlds();
        int before = 0;
        for (int world : new int[] {5, 5, 0, 3, 4, 4, 0, 0}) {
            Expect.due("show(2, " + world + ")", x.show(2, world), before);
            before = world;
        }
    }

    /** "BAD: none such": the first and the last client and world there are. */
    private static void promise7TheFirstAndTheLast() {
        ForkWatch x = withSixWorlds();
        for (int c = 0; c < 4; c++) {
            Expect.due("show(" + c + ", 5)", x.show(c, 5), 0);
            Expect.due("show(" + c + ", 6)", x.show(c, 6), ForkWatch.BAD);
            Expect.due("show(" + c + ", - 1)", x.show(c, -1), ForkWatch.BAD);
            Expect.due("world shown to client " + c, x.count(4 + c), 5);
        }
        Calls.put(x, 3, 0, 1);
        Calls.readsAs(x, 0, 0, 1);
        x.show(1, 0);
        Calls.readsAs(x, 1, 0);
    }

    /** "A world is told a client's statement of another one .. in the place of its own." */
    private static void promise8OfAnotherOne() {
        for (int c = 0; c < 4; c++) {
            ForkWatch x = new ForkWatch();
            x.split(0);
            Expect.due("read", x.read(c, 0), 0);
            Expect.due("graft", x.graft(1, c, 0), true);
            Calls.saysAs(x, 1, c, Model.signed(c, own(c), Calls.emptyRoot()));
            Calls.saysAs(x, 0, c, Model.signed(c, own(c), Calls.emptyRoot()));
            Calls.saysAs(x, 1, (c + 1) % 4, Model.signed((c + 1) % 4, new long[4], Calls.emptyRoot()));
            x.show(c, 1);
            Expect.due("the client knows it again", x.read(c, 0), 0);
        }
    }

    private static long[] own(int client) {
        long[] counts = new long[4];
        counts[client] = 1;
        return counts;
    }

    /** "(Or its own once more)": true, and nothing is another one. */
    private static void promise8ItsOwnOnceMore() {
        Look.Run used = x -> {
            x.split(0);
            Calls.put(x, 1, 2, 3, 4);
        };
        Look.Run grafts = x -> {
            for (int c = 0; c < 4; c++) {
                Expect.due("graft(0, " + c + ", 0)", x.graft(0, c, 0), true);
                Expect.due("graft(1, " + c + ", 1)", x.graft(1, c, 1), true);
            }
        };
        Expect.due("all is as before", Look.at(used, grafts).equals(Look.at(used)), true);
    }

    /** "False: none such": the first and the last world there are. */
    private static void promise8BetweenTheFirstAndTheLast() {
        ForkWatch x = withSixWorlds();
        Expect.due("read", x.read(3, 0), 0);
        x.show(0, 5);
        Expect.due("read", x.read(0, 0), 0);
        Expect.due("graft(5, 3, 0)", x.graft(5, 3, 0), true);
        Expect.due("graft(0, 0, 5)", x.graft(0, 0, 5), true);
        Expect.due("client 3's count in world 5", x.statement(5, 3, 19), 1);
        Expect.due("client 0's count in world 0", x.statement(0, 0, 7), 1);
        Expect.due("client 0's count in world 5", x.statement(5, 0, 7), 1);
        Expect.due("client 0's count in world 4", x.statement(4, 0, 7), 0);
    }

    /** "Where mask (1 .. 255) has bits": each of them, and twice is not at all. */
    private static void promise9MasksFrom1To255() {
        for (int mask = 1; mask <= 255; mask++) {
            ForkWatch x = new ForkWatch();
            int before = x.statement(0, 2, 52);
            Expect.due("poke with " + mask, x.poke(0, 2, 52, mask), true);
            Expect.due("the byte", x.statement(0, 2, 52), before ^ mask);
            Expect.due("read", x.read(0, 0), -2);
            Expect.due("poke with " + mask, x.poke(0, 2, 52, mask), true);
            Expect.due("the byte", x.statement(0, 2, 52), before);
            Expect.due("read", x.read(0, 0), 0);
        }
        ForkWatch x = new ForkWatch();
        Expect.due("mask 0", x.poke(0, 0, 0, 0), false);
        Expect.due("mask 256", x.poke(0, 0, 0, 256), false);
    }

    /** "A byte of a statement": the first and the last of the first and the last client and world. */
    private static void promise9TheFirstAndTheLastByte() {
        ForkWatch x = withSixWorlds();
        for (int world = 0; world < 6; world += 5) {
            for (int c = 0; c < 4; c += 3) {
                for (int i = 0; i < 84; i += 83) {
                    int before = x.statement(world, c, i);
                    Expect.due("poke", x.poke(world, c, i, 129), true);
                    Expect.due("byte " + i, x.statement(world, c, i), before ^ 129);
                }
                Expect.due("byte - 1", x.poke(world, c, -1, 1), false);
                Expect.due("byte 84", x.poke(world, c, 84, 1), false);
            }
        }
    }

    /** "A byte of a statement of a world": no other byte, no other world, and not what is remembered. */
    private static void promise9OneStatementAlone() {
        Look.Run twoWorlds = x -> x.split(0);
        Look.Run pokes = x -> x.poke(1, 2, 83, 1);
        ForkWatch before = new ForkWatch();
        ForkWatch after = new ForkWatch();
        twoWorlds.on(before);
        twoWorlds.on(after);
        pokes.on(after);
        for (int i = 0; i < 84; i++) {
            for (int world = -1; world < 2; world++) {
                int due = before.statement(world, 2, i) ^ (world == 1 && i == 83 ? 1 : 0);
                Expect.due("byte " + i + " in world " + world, after.statement(world, 2, i), due);
            }
            Expect.due("byte " + i + " of client 3", after.statement(1, 3, i), before.statement(1, 3, i));
        }
    }

    /** "A byte of a file of a world likewise": each mask, and twice is not at all. */
    private static void promise10MasksFrom1To255() {
        for (int mask = 1; mask <= 255; mask++) {
            ForkWatch x = new ForkWatch();
            Calls.put(x, 0, 4, 170);
            Expect.due("spoil with " + mask, x.spoil(0, 4, 0, mask), true);
            Expect.due("read", x.read(1, 4), -5);
            Expect.due("spoil with " + mask, x.spoil(0, 4, 0, mask), true);
            Calls.readsAs(x, 1, 4, 170);
        }
        ForkWatch x = new ForkWatch();
        Calls.put(x, 0, 4, 170);
        Expect.due("mask 0", x.spoil(0, 4, 0, 0), false);
        Expect.due("mask 256", x.spoil(0, 4, 0, 256), false);
        Calls.readsAs(x, 1, 4, 170);
    }

    /** "A byte of a file": the first and the last of the first and the last file of the last world. */
    private static void promise10TheFirstAndTheLastByte() {
        for (int f = 0; f < 16; f += 15) {
            for (int i = 0; i < 12; i += 11) {
                ForkWatch x = new ForkWatch();
                Calls.put(x, 0, f, Calls.bytes(12));
                for (int world = 1; world < 6; world++) {
                    x.split(0);
                }
                x.show(1, 5);
                Expect.due("spoil", x.spoil(5, f, i, 255), true);
                Expect.due("read in world 5", x.read(1, f), -5);
                Expect.due("spoil", x.spoil(5, f, i, 255), true);
                Calls.readsAs(x, 1, f, Calls.bytes(12));
            }
        }
    }

    /** "False: none such (also behind its end)." */
    private static void promise10BehindTheEndOfEachLength() {
        for (int length = 0; length <= 12; length++) {
            ForkWatch x = new ForkWatch();
            Calls.put(x, 0, 1, Calls.bytes(12));
            Calls.put(x, 0, 1, Calls.bytes(length));
            for (int i = -1; i < 14; i++) {
                Expect.due("spoil of byte " + i + " of " + length, x.spoil(0, 1, i, 1), i >= 0 && i < length);
            }
        }
    }

    /** "A byte of a file of a world": not of the world that it was split from, nor of its twin. */
    private static void promise10OneWorldAlone() {
        for (int spoilt = 0; spoilt < 2; spoilt++) {
            ForkWatch x = new ForkWatch();
            Calls.put(x, 0, 3, 1, 2);
            x.split(0);
            x.show(1, spoilt);
            x.show(2, 1 - spoilt);
            Expect.due("spoil", x.spoil(spoilt, 3, 1, 4), true);
            Expect.due("read in the world that was spoilt", x.read(1, 3), -5);
            Calls.readsAs(x, 2, 3, 1, 2);
        }
    }

    /** "0, if one is not above the other": one way is enough, and equal ones are. */
    private static void promise11NotAboveOneWayIsEnough() {
        for (int a = 0; a < 4; a++) {
            for (int b = 0; b < 4; b++) {
                if (a == b) {
                    continue;
                }
                ForkWatch x = new ForkWatch();
                Expect.due("equal ones", x.exchange(a, b), 0);
                Expect.due("read", x.read(a, 0), 0);
                Expect.due("the first is above", x.exchange(a, b), 0);
                Expect.due("the second is above", x.exchange(b, a), 0);
                Expect.due("read", x.read(b, 0), 0);
                Expect.due("the second saw the first", x.exchange(a, b), 0);
            }
        }
    }

    /** "What they remember": not what a world is told. */
    private static void promise11WhatTheyRemember() {
        ForkWatch x = new ForkWatch();
        x.split(0);
        x.show(1, 1);
        Expect.due("read", x.read(0, 0), 0);
        Expect.due("read", x.read(1, 0), 0);
        Expect.due("parted", x.exchange(0, 1), 1);
        x.graft(0, 1, 1);
        x.graft(1, 0, 0);
        x.poke(0, 0, 7, 1);
        Expect.due("parted still", x.exchange(0, 1), 1);
        Expect.due("with one that did nothing", x.exchange(0, 2), 0);
    }

    /** "World - 1: of the one that the client remembers": and each world from the first to the last. */
    private static void promise12EveryWorldAndTheOneRemembered() {
        for (int world = 0; world < 6; world++) {
            ForkWatch x = withSixWorlds();
            x.show(3, world);
            Calls.put(x, 3, 0, world);
            byte[][] files = new byte[16][0];
            files[0] = Calls.packed(world);
            byte[] last = Model.signed(3, own(3), Model.root(files));
            Calls.saysAs(x, world, 3, last);
            Calls.saysAs(x, -1, 3, last);
            Calls.saysAs(x, (world + 1) % 6, 3, Model.signed(3, new long[4], Calls.emptyRoot()));
        }
    }

    /** "Count k of what a client remembers": the first and the last k of the first and the last client. */
    private static void promise13EachCount() {
        for (int c = 0; c < 4; c++) {
            ForkWatch x = new ForkWatch();
            int[] counts = new int[4];
            for (int d = 0; d < 4; d++) {
                int one = (c + d) % 4;
                for (int i = 0; i <= one; i++) {
                    Expect.due("read by " + one, x.read(one, 0), 0);
                    counts[one]++;
                }
                Calls.seesAs(x, one, counts);
            }
            Calls.seesAs(x, c, own(c, c + 1));
        }
    }

    private static int[] own(int client, int count) {
        int[] counts = new int[4];
        counts[client] = count;
        return counts;
    }

    /** "Of what was collected, which stays": 64 bytes too. */
    private static void promise14WhatWasCollectedStays() {
        ForkWatch x = new ForkWatch();
        Calls.feedAll(x, Calls.bytes(64));
        byte[] digest = Model.sha(Calls.packed(Calls.bytes(64)));
        for (int i = 0; i < 32; i += 31) {
            for (int turn = 0; turn < 2; turn++) {
                x.digest(1, i);
                Expect.due("digest(0, " + i + ")", x.digest(0, i), digest[i] & 255);
                Expect.due("collected", x.count(3), 64);
            }
        }
        ForkWatch y = new ForkWatch();
        Calls.feedAll(y, 1, 2);
        y.digest(0, 0);
        y.digest(1, 31);
        Calls.put(y, 0, 0, 3);
        Calls.readsAs(y, 0, 0, 1, 2, 3);
    }

    /** "Of what was collected": nothing at first, and nothing again when it is gone. */
    private static void promise14NothingCollected() {
        ForkWatch x = new ForkWatch();
        byte[] digest = Model.sha();
        byte[] mac = Model.mac(new byte[0]);
        for (int turn = 0; turn < 2; turn++) {
            for (int i = 0; i < 32; i++) {
                Expect.due("digest(0, " + i + ")", x.digest(0, i), digest[i] & 255);
                Expect.due("digest(1, " + i + ")", x.digest(1, i), mac[i] & 255);
            }
            Calls.put(x, 0, 0, Calls.bytes(12));
        }
    }

    /** "Those operations that its last statement counts": none at first, and stopped ones never. */
    private static void promise15ANewObject() {
        ForkWatch x = new ForkWatch();
        Expect.due("plain() at first", x.plain(), true);
        x.split(0);
        Expect.due("read", x.read(0, 0), 0);
        x.show(0, 1);
        Expect.due("a read that is stopped", x.read(0, 0), -3);
        Expect.due("plain()", x.plain(), true);
    }

    /** "What its operations answered": as many as 512 calls let be. */
    private static void promise15AsManyOperationsAsThereCanBe() {
        ForkWatch x = new ForkWatch();
        for (int i = 0; i < 511; i++) {
            if (i % 3 == 0) {
                Expect.due("feed", x.feed(i & 255), true);
            } else if (i % 3 == 1) {
                Expect.due("write", x.write(i % 4, i % 2), 1);
            } else {
                Expect.due("read", x.read((i + 1) % 4, i % 2), i < 5 ? 0 : 1);
            }
        }
        Expect.due("plain()", x.plain(), true);
    }

    /** "True also, when something was changed": by each way, and also when it was put back. */
    private static void promise15WhenSomethingWasChanged() {
        Look.Run[] changes = {
            x -> x.poke(0, 0, 0, 1), x -> x.graft(1, 0, 0), x -> x.graft(0, 0, 0), x -> x.spoil(0, 0, 0, 1),
        };
        for (Look.Run change : changes) {
            ForkWatch x = new ForkWatch();
            x.split(0);
            Calls.put(x, 0, 0, 1);
            change.on(x);
            Expect.due("plain() when it was changed", x.plain(), true);
            x.read(0, 0);
            x.read(1, 0);
            Expect.due("plain() behind operations", x.plain(), true);
            change.on(x);
            x.read(0, 0);
            Expect.due("plain() when it was put back", x.plain(), true);
        }
    }

    /** "For each client", "of two clients that are not parted": each in a world of its own. */
    private static void promise15SixWorldsAndFourClients() {
        ForkWatch x = new ForkWatch();
        Calls.put(x, 0, 0, 1);
        for (int world = 1; world < 6; world++) {
            x.split(world - 1);
        }
        for (int c = 0; c < 4; c++) {
            x.show(c, 2 + c);
            Calls.put(x, c, 0, 10 + c);
            Calls.readsAs(x, c, 0, 10 + c);
            Expect.due("plain() behind client " + c, x.plain(), true);
        }
        for (int c = 1; c < 4; c++) {
            Expect.due("parted", x.exchange(0, c), 1);
        }
    }

    /** "0 worlds": one at first, 6 at most. */
    private static void promise16Worlds() {
        Expect.due("count(0) at first", new ForkWatch().count(0), 1);
        ForkWatch x = withSixWorlds();
        x.split(0);
        Expect.due("count(0)", x.count(0), 6);
    }

    /** "1 operations that were well, 2 those that a check stopped": refused ones are neither. */
    private static void promise16OperationsWellAndStopped() {
        for (int check = 1; check <= 4; check++) {
            ForkWatch x = new ForkWatch();
            Calls.put(x, 0, 0, 1);
            makeFault(x, check);
            int well = x.count(1);
            Expect.due("stopped at first", x.count(2), 0);
            Expect.due("a write", x.write(1, 0), -1 - check);
            Expect.due("a read", x.read(1, 0), -1 - check);
            Expect.due("refused", x.read(1, 16), ForkWatch.NONE);
            Expect.due("refused", x.write(4, 0), ForkWatch.NONE);
            Expect.due("count(1)", x.count(1), well);
            Expect.due("count(2)", x.count(2), 2);
        }
        ForkWatch x = new ForkWatch();
        Expect.due("count(1) at first", x.count(1), 0);
        Expect.due("a write", x.write(0, 0), 1);
        Expect.due("count(1) behind a write", x.count(1), 1);
        Expect.due("a read", x.read(0, 0), 0);
        Expect.due("count(1) behind a read", x.count(1), 2);
    }

    /** "3 bytes collected": 0 to 64. */
    private static void promise16BytesCollected() {
        ForkWatch x = new ForkWatch();
        for (int i = 0; i < 64; i++) {
            Expect.due("count(3)", x.count(3), i);
            Calls.feedAll(x, i);
        }
        Expect.due("count(3)", x.count(3), 64);
    }

    /** "4 + c the world shown to client c. BAD: another number." */
    private static void promise16TheWorldShownToEach() {
        ForkWatch x = withSixWorlds();
        for (int c = 0; c < 4; c++) {
            x.show(c, 5 - c);
        }
        for (int c = 0; c < 4; c++) {
            Expect.due("count(" + (4 + c) + ")", x.count(4 + c), 5 - c);
        }
        Expect.due("count(8)", x.count(8), ForkWatch.BAD);
        Expect.due("count(- 1)", x.count(-1), ForkWatch.BAD);
    }
}
