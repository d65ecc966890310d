theorem zd_Law_law_869 : decode zc_Law_law 869 = .ok (.if_icmp .eq 5, 3) := by decide +kernel
theorem zd_Law_law_872 : decode zc_Law_law 872 = .ok (.iconst 0, 1) := by decide +kernel
theorem zd_Law_law_873 : decode zc_Law_law 873 = .ok (.ireturn, 1) := by decide +kernel
theorem zd_Law_law_874 : decode zc_Law_law 874 = .ok (.iinc 4 4, 3) := by decide +kernel
theorem zd_Law_law_877 : decode zc_Law_law 877 = .ok (.goto (-854), 3) := by decide +kernel
theorem zd_Law_law_880 : decode zc_Law_law 880 = .ok (.iconst 1, 1) := by decide +kernel
theorem zd_Law_law_881 : decode zc_Law_law 881 = .ok (.ireturn, 1) := by decide +kernel
