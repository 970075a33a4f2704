theorem hat_49 : (Bundle.ownAtoms "ExploreShares" 49 "java/lang/UnsupportedOperationException" ["java/lang/RuntimeException", "java/lang/Exception"]).all xs_okw = true := by decide +kernel
theorem hat_67 : (Bundle.ownAtoms "ExploreShares" 67 "java/lang/IllegalArgumentException" ["java/lang/RuntimeException", "java/lang/Exception"]).all xs_okw = true := by decide +kernel
theorem hat_83 : (Bundle.ownAtoms "ExploreShares" 83 "java/lang/IndexOutOfBoundsException" ["java/lang/RuntimeException", "java/lang/Exception"]).all xs_okw = true := by decide +kernel
theorem hat_104 : (Bundle.ownAtoms "ExploreShares" 104 "java/lang/IllegalStateException" ["java/lang/RuntimeException", "java/lang/Exception"]).all xs_okw = true := by decide +kernel
