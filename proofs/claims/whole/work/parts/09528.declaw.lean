theorem dL_law__2551 : decode cL_law_ 2551 = .ok (.iadd, 1) := by decide +kernel
theorem dL_law__2552 : decode cL_law_ 2552 = .ok (.iaload, 1) := by decide +kernel
theorem dL_law__2553 : decode cL_law_ 2553 = .ok (.invokevirtual 240, 3) := by decide +kernel
theorem dL_law__2556 : decode cL_law_ 2556 = .ok (.aload_n 2, 1) := by decide +kernel
theorem dL_law__2557 : decode cL_law_ 2557 = .ok (.aload_n 0, 1) := by decide +kernel
theorem dL_law__2558 : decode cL_law_ 2558 = .ok (.iload 4, 2) := by decide +kernel
theorem dL_law__2560 : decode cL_law_ 2560 = .ok (.iconst 1, 1) := by decide +kernel
theorem dL_law__2561 : decode cL_law_ 2561 = .ok (.iadd, 1) := by decide +kernel
theorem dL_law__2562 : decode cL_law_ 2562 = .ok (.iaload, 1) := by decide +kernel
theorem dL_law__2563 : decode cL_law_ 2563 = .ok (.invokevirtual 243, 3) := by decide +kernel
theorem dL_law__2566 : decode cL_law_ 2566 = .ok (.if_icmp .eq 5, 3) := by decide +kernel
theorem dL_law__2569 : decode cL_law_ 2569 = .ok (.iconst 0, 1) := by decide +kernel
theorem dL_law__2570 : decode cL_law_ 2570 = .ok (.ireturn, 1) := by decide +kernel
theorem dL_law__2571 : decode cL_law_ 2571 = .ok (.iinc 4 7, 3) := by decide +kernel
theorem dL_law__2574 : decode cL_law_ 2574 = .ok (.goto (-2551), 3) := by decide +kernel
theorem dL_law__2577 : decode cL_law_ 2577 = .ok (.iconst 1, 1) := by decide +kernel
theorem dL_law__2578 : decode cL_law_ 2578 = .ok (.ireturn, 1) := by decide +kernel
