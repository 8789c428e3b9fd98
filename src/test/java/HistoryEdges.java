/** Promises 23 to 25: undo, and the snapshot. */
final class HistoryEdges extends Edges {
    private static final Acts NEW = Museums.NEW;
    private static final Acts NIGHT = Museums.NIGHT;

    @Override
    void run() {
        undo();
        undoReturns();
        keep();
        restore();
        restoreReturns();
    }

    private void undo() {
        promise(23);
        says("Removes and restores the latest state of the history.");
        Acts five = Museums.rooms(5);
        sameState("one back", five.then(Museums.undo(1)), Museums.rooms(4));
        sameState("two back", five.then(Museums.undo(2)), Museums.rooms(3));
        sameState("four back", five.then(Museums.undo(4)), Museums.rooms(1));
        sameState("five back are four back", five.then(Museums.undo(5)), Museums.rooms(1));
        sameState("nine around: four back", Museums.rooms(9).then(Museums.undo(4)), Museums.rooms(5));
        answer("it is removed", five.then(Museums.undo(1)), x -> x.count(14), 3);
        answer("it is no act", five.then(Museums.undo(3)), x -> x.undo(), 0);
        sameState("undo of what came behind an undo", five.then(Museums.undo(2)).then(x -> x.addRoom(5, 9))
            .then(Museums.undo(1)),
            Museums.rooms(3));
        sameState("and of what came before it", five.then(Museums.undo(2)).then(x -> x.addRoom(5, 9))
            .then(Museums.undo(2)),
            Museums.rooms(2));
        sameState("a night", NIGHT.then(x -> x.pass(60)).then(Museums.undo(1)), NIGHT);
        sameState("a night and what follows", NIGHT.then(x -> x.pass(60)).then(Museums.undo(1)).then(x -> x.pass(30)),
            NIGHT.then(x -> x.pass(30)));
        sameState("an earlier state is not changed by what follows", NIGHT.then(x -> {
            x.pass(30);
            x.go(2, 0, 0);
            x.addWork(1, 1, 0);
            x.takeAway(0);
        }).then(Museums.undo(4)), NIGHT);
        answer("the text is no part of the state", NEW.then(x -> x.addRoom(0, 0)).then(Museums.typed("1,2"))
            .then(Museums.undo(1)),
            x -> x.clearText(), 3);
        answer("nor is the snapshot", NEW.then(x -> x.pass(3)).then(x -> x.keep()).then(Museums.undo(1)),
            x -> x.restore(), 3);
    }

    private void undoReturns() {
        Acts five = Museums.rooms(5);
        says("Returns the number of states that are left;");
        answer("3", five, x -> x.undo(), 3);
        answer("2", five.then(Museums.undo(1)), x -> x.undo(), 2);
        answer("1", five.then(Museums.undo(2)), x -> x.undo(), 1);
        answer("0", five.then(Museums.undo(3)), x -> x.undo(), 0);
        answer("0 of the only one", Museums.rooms(1), x -> x.undo(), 0);
        answer("1 behind an act", five.then(Museums.undo(3)).then(x -> x.addGuard()), x -> x.undo(), 1);
        says("NONE if the history is empty.");
        refuse("at first", NEW, x -> x.undo(), NONE);
        refuse("all are removed", five.then(Museums.undo(4)), x -> x.undo(), NONE);
        refuse("the only one is removed", Museums.rooms(1).then(Museums.undo(1)), x -> x.undo(), NONE);
        refuse("keep and texts record none", NEW.then(x -> x.keep()).then(Museums.typed("1")), x -> x.undo(), NONE);
        refuse("errors record none", NEW.then(x -> x.addRoom(6, 0)).then(x -> x.pass(0)), x -> x.undo(), NONE);
        refuse("NONE records none", NEW.then(x -> x.closeZone(0)).then(x -> x.restore()), x -> x.undo(), NONE);
    }

    private void keep() {
        promise(24);
        says("Takes a snapshot of the state, in place of the one that was.");
        sameState("the state stays", NIGHT.then(x -> x.keep()), NIGHT);
        sameState("the snapshot is the state", NIGHT.then(x -> x.keep()).then(x -> x.pass(30))
            .then(x -> x.restore()), NIGHT);
        sameState("the one that was is gone", NIGHT.then(x -> x.keep()).then(x -> x.pass(30)).then(x -> x.keep())
            .then(x -> x.pass(5)).then(x -> x.restore()), NIGHT.then(x -> x.pass(30)));
        sameState("with fewer rooms than the one that was", NEW.then(x -> {
            NIGHT.on(x);
            x.keep();
            x.undo();
            x.undo();
            x.keep();
            x.pass(30);
            x.restore();
        }), NIGHT.then(Museums.undo(2)));
        answer("is no act", Museums.rooms(2).then(x -> x.keep()), x -> x.count(14), 2);
        answer("is no act in a new museum", NEW.then(x -> x.keep()), x -> x.count(14), 0);
        answer("the text stays", NIGHT.then(x -> x.keep()), x -> x.clearText(), 3);
        says("Returns the minute.");
        answer("0", NEW, x -> x.keep(), 0);
        answer("0 in a second night", NEW.then(x -> x.pass(9)).then(x -> x.nextNight()), x -> x.keep(), 0);
        answer("1", NEW.then(x -> x.pass(1)), x -> x.keep(), 1);
        answer("720", NEW.then(Museums.pass(720)), x -> x.keep(), 720);
    }

    private void restore() {
        promise(25);
        says("Restores the state of the snapshot, which stays. This is an act.");
        Acts kept = NIGHT.then(x -> x.keep()).then(x -> x.pass(30));
        act("behind a snapshot", kept, x -> x.restore(), 7);
        act("right behind it", NIGHT.then(x -> x.keep()), x -> x.restore(), 7);
        act("in a new museum", NEW.then(x -> x.keep()), x -> x.restore(), 0);
        sameState("the state", kept.then(x -> x.restore()), NIGHT);
        sameState("what follows is as it was", kept.then(x -> x.restore()).then(x -> x.pass(30)), kept);
        sameState("the snapshot stays", kept.then(x -> x.restore()).then(x -> x.pass(60))
            .then(x -> x.restore()), NIGHT);
        sameState("it is not changed by what follows", kept.then(x -> x.restore()).then(x -> {
            x.addRoom(0, 0);
            x.takeAway(1);
            x.stop(2);
            x.nextNight();
            x.pass(9);
        }).then(x -> x.restore()), NIGHT);
        sameState("undo goes back", kept.then(x -> x.restore()).then(Museums.undo(1)), kept);
        sameState("to a later night than that of the snapshot", NEW.then(x -> x.keep()).then(x -> {
            x.addRoom(0, 0);
            x.pass(60);
            x.nextNight();
        }).then(x -> x.restore()), NEW);
        answer("the text stays", kept.then(Museums.typed(",0")).then(x -> x.restore()), x -> x.clearText(), 5);
        answer("the history stays, but for the act's", Museums.rooms(2).then(x -> x.keep()).then(x -> x.restore()),
            x -> x.count(14), 3);
    }

    private void restoreReturns() {
        says("Returns the minute then;");
        act("0", NEW.then(x -> x.keep()).then(x -> x.pass(60)), x -> x.restore(), 0);
        act("720", NEW.then(Museums.pass(720)).then(x -> x.keep()).then(x -> x.nextNight()), x -> x.restore(), 720);
        act("the one of the latest snapshot", NEW.then(x -> x.keep()).then(x -> x.pass(5)).then(x -> x.keep())
            .then(x -> x.pass(5)), x -> x.restore(), 5);
        act("a second time", NEW.then(x -> x.pass(5)).then(x -> x.keep()).then(x -> x.restore()), x -> x.restore(), 5);
        says("NONE if there is no snapshot.");
        refuse("at first", NEW, x -> x.restore(), NONE);
        refuse("behind acts", Museums.row(2).then(x -> x.pass(3)), x -> x.restore(), NONE);
        refuse("behind undo", Museums.row(2).then(Museums.undo(2)), x -> x.restore(), NONE);
    }
}
