/** A change of the sample that breaks this rule and none before it. */
record Fault(int rule, String name, Change change) {
    interface Change {
        SampleFile to(SampleFile file);
    }

    SampleFile in(SampleFile file) {
        return change.to(file);
    }

    SampleFile inSample() {
        return in(new SampleFile());
    }
}
