/** The ways in which a file is not open, or no document is loaded. */
final class States {
    private States() { }

    static SectorDocument[] notOpen() {
        return new SectorDocument[] {
            new SectorDocument(), new SampleFile().closed(), afterPut(), afterResize(), afterRefusedOpen()
        };
    }

    static SectorDocument[] notLoaded() {
        return new SectorDocument[] {
            new SectorDocument(), new SampleFile().closed(), afterPut(), afterResize(), afterRefusedOpen(),
            new SampleFile().opened(), afterOpen(), refusedByRule12(), refusedByRule20()
        };
    }

    private static SectorDocument afterPut() {
        SectorDocument x = new SampleFile().loaded();
        x.put(47, 0, 0, 0, 0);
        return x;
    }

    private static SectorDocument afterResize() {
        SectorDocument x = new SampleFile().loaded();
        x.resize(24);
        return x;
    }

    private static SectorDocument afterRefusedOpen() {
        SectorDocument x = new SampleFile().loaded();
        x.put(0, 0, 3, 1, 2);
        x.open();
        return x;
    }

    private static SectorDocument afterOpen() {
        SectorDocument x = new SampleFile().loaded();
        x.open();
        return x;
    }

    private static SectorDocument refusedByRule12() {
        SectorDocument x = new SampleFile().body(1, 2).opened();
        x.load();
        return x;
    }

    private static SectorDocument refusedByRule20() {
        SectorDocument x = new SampleFile().notes(2, SampleFile.modifier(0, 3, 0)).opened();
        x.load();
        return x;
    }
}
